theorem dX2_init_0 : decode cX2_init 0 = .ok (.aload_n 0, 1) := by decide +kernel
theorem dX2_init_1 : decode cX2_init 1 = .ok (.invokespecial 3, 3) := by decide +kernel
theorem dX2_init_4 : decode cX2_init 4 = .ok (.aload_n 0, 1) := by decide +kernel
theorem dX2_init_5 : decode cX2_init 5 = .ok (.bipush 9, 2) := by decide +kernel
theorem dX2_init_7 : decode cX2_init 7 = .ok (.anewarray 11, 3) := by decide +kernel
theorem dX2_init_10 : decode cX2_init 10 = .ok (.putfield 13, 3) := by decide +kernel
theorem dX2_init_13 : decode cX2_init 13 = .ok (.aload_n 0, 1) := by decide +kernel
theorem dX2_init_14 : decode cX2_init 14 = .ok (.iconst 0, 1) := by decide +kernel
theorem dX2_init_15 : decode cX2_init 15 = .ok (.putfield 17, 3) := by decide +kernel
theorem dX2_init_18 : decode cX2_init 18 = .ok (.aload_n 0, 1) := by decide +kernel
theorem dX2_init_19 : decode cX2_init 19 = .ok (.iconst 0, 1) := by decide +kernel
theorem dX2_init_20 : decode cX2_init 20 = .ok (.putfield 21, 3) := by decide +kernel
theorem dX2_init_23 : decode cX2_init 23 = .ok (.iconst 0, 1) := by decide +kernel
theorem dX2_init_24 : decode cX2_init 24 = .ok (.istore_n 1, 1) := by decide +kernel
theorem dX2_init_25 : decode cX2_init 25 = .ok (.iload_n 1, 1) := by decide +kernel
theorem dX2_init_26 : decode cX2_init 26 = .ok (.bipush 9, 2) := by decide +kernel
theorem dX2_init_28 : decode cX2_init 28 = .ok (.if_icmp .ge 22, 3) := by decide +kernel
theorem dX2_init_31 : decode cX2_init 31 = .ok (.aload_n 0, 1) := by decide +kernel
theorem dX2_init_32 : decode cX2_init 32 = .ok (.getfield 13, 3) := by decide +kernel
theorem dX2_init_35 : decode cX2_init 35 = .ok (.iload_n 1, 1) := by decide +kernel
theorem dX2_init_36 : decode cX2_init 36 = .ok (.new 11, 3) := by decide +kernel
theorem dX2_init_39 : decode cX2_init 39 = .ok (.dup, 1) := by decide +kernel
theorem dX2_init_40 : decode cX2_init 40 = .ok (.invokespecial 24, 3) := by decide +kernel
theorem dX2_init_43 : decode cX2_init 43 = .ok (.aastore, 1) := by decide +kernel
theorem dX2_init_44 : decode cX2_init 44 = .ok (.iinc 1 1, 3) := by decide +kernel
theorem dX2_init_47 : decode cX2_init 47 = .ok (.goto (-22), 3) := by decide +kernel
theorem dX2_init_50 : decode cX2_init 50 = .ok (.return_, 1) := by decide +kernel
theorem dX2_note_0 : decode cX2_note 0 = .ok (.aload_n 0, 1) := by decide +kernel
theorem dX2_note_1 : decode cX2_note 1 = .ok (.getfield 13, 3) := by decide +kernel
theorem dX2_note_4 : decode cX2_note 4 = .ok (.aload_n 0, 1) := by decide +kernel
theorem dX2_note_5 : decode cX2_note 5 = .ok (.getfield 17, 3) := by decide +kernel
theorem dX2_note_8 : decode cX2_note 8 = .ok (.aaload, 1) := by decide +kernel
theorem dX2_note_9 : decode cX2_note 9 = .ok (.aload_n 1, 1) := by decide +kernel
theorem dX2_note_10 : decode cX2_note 10 = .ok (.invokevirtual 25, 3) := by decide +kernel
theorem dX2_note_13 : decode cX2_note 13 = .ok (.return_, 1) := by decide +kernel
theorem dX2_keep_0 : decode cX2_keep 0 = .ok (.aload_n 0, 1) := by decide +kernel
theorem dX2_keep_1 : decode cX2_keep 1 = .ok (.aload_n 0, 1) := by decide +kernel
theorem dX2_keep_2 : decode cX2_keep 2 = .ok (.getfield 17, 3) := by decide +kernel
theorem dX2_keep_5 : decode cX2_keep 5 = .ok (.iconst 1, 1) := by decide +kernel
theorem dX2_keep_6 : decode cX2_keep 6 = .ok (.iadd, 1) := by decide +kernel
theorem dX2_keep_7 : decode cX2_keep 7 = .ok (.bipush 9, 2) := by decide +kernel
theorem dX2_keep_9 : decode cX2_keep 9 = .ok (.irem, 1) := by decide +kernel
theorem dX2_keep_10 : decode cX2_keep 10 = .ok (.putfield 17, 3) := by decide +kernel
theorem dX2_keep_13 : decode cX2_keep 13 = .ok (.aload_n 0, 1) := by decide +kernel
theorem dX2_keep_14 : decode cX2_keep 14 = .ok (.aload_n 0, 1) := by decide +kernel
theorem dX2_keep_15 : decode cX2_keep 15 = .ok (.getfield 21, 3) := by decide +kernel
theorem dX2_keep_18 : decode cX2_keep 18 = .ok (.iconst 1, 1) := by decide +kernel
theorem dX2_keep_19 : decode cX2_keep 19 = .ok (.iadd, 1) := by decide +kernel
theorem dX2_keep_20 : decode cX2_keep 20 = .ok (.bipush 8, 2) := by decide +kernel
theorem dX2_keep_22 : decode cX2_keep 22 = .ok (.invokestatic 29, 3) := by decide +kernel
theorem dX2_keep_25 : decode cX2_keep 25 = .ok (.putfield 21, 3) := by decide +kernel
theorem dX2_keep_28 : decode cX2_keep 28 = .ok (.return_, 1) := by decide +kernel
theorem dX2_takeBack_0 : decode cX2_takeBack 0 = .ok (.aload_n 1, 1) := by decide +kernel
theorem dX2_takeBack_1 : decode cX2_takeBack 1 = .ok (.aload_n 0, 1) := by decide +kernel
theorem dX2_takeBack_2 : decode cX2_takeBack 2 = .ok (.getfield 13, 3) := by decide +kernel
theorem dX2_takeBack_5 : decode cX2_takeBack 5 = .ok (.aload_n 0, 1) := by decide +kernel
theorem dX2_takeBack_6 : decode cX2_takeBack 6 = .ok (.getfield 17, 3) := by decide +kernel
theorem dX2_takeBack_9 : decode cX2_takeBack 9 = .ok (.aaload, 1) := by decide +kernel
theorem dX2_takeBack_10 : decode cX2_takeBack 10 = .ok (.invokevirtual 25, 3) := by decide +kernel
theorem dX2_takeBack_13 : decode cX2_takeBack 13 = .ok (.return_, 1) := by decide +kernel
theorem dX2_stepBack_0 : decode cX2_stepBack 0 = .ok (.aload_n 0, 1) := by decide +kernel
theorem dX2_stepBack_1 : decode cX2_stepBack 1 = .ok (.getfield 21, 3) := by decide +kernel
theorem dX2_stepBack_4 : decode cX2_stepBack 4 = .ok (.ifCond .ne 5, 3) := by decide +kernel
theorem dX2_stepBack_7 : decode cX2_stepBack 7 = .ok (.iconst 0, 1) := by decide +kernel
theorem dX2_stepBack_8 : decode cX2_stepBack 8 = .ok (.ireturn, 1) := by decide +kernel
theorem dX2_stepBack_9 : decode cX2_stepBack 9 = .ok (.aload_n 0, 1) := by decide +kernel
theorem dX2_stepBack_10 : decode cX2_stepBack 10 = .ok (.aload_n 0, 1) := by decide +kernel
theorem dX2_stepBack_11 : decode cX2_stepBack 11 = .ok (.getfield 17, 3) := by decide +kernel
theorem dX2_stepBack_14 : decode cX2_stepBack 14 = .ok (.bipush 9, 2) := by decide +kernel
theorem dX2_stepBack_16 : decode cX2_stepBack 16 = .ok (.iadd, 1) := by decide +kernel
theorem dX2_stepBack_17 : decode cX2_stepBack 17 = .ok (.iconst 1, 1) := by decide +kernel
theorem dX2_stepBack_18 : decode cX2_stepBack 18 = .ok (.isub, 1) := by decide +kernel
theorem dX2_stepBack_19 : decode cX2_stepBack 19 = .ok (.bipush 9, 2) := by decide +kernel
theorem dX2_stepBack_21 : decode cX2_stepBack 21 = .ok (.irem, 1) := by decide +kernel
theorem dX2_stepBack_22 : decode cX2_stepBack 22 = .ok (.putfield 17, 3) := by decide +kernel
theorem dX2_stepBack_25 : decode cX2_stepBack 25 = .ok (.aload_n 0, 1) := by decide +kernel
theorem dX2_stepBack_26 : decode cX2_stepBack 26 = .ok (.dup, 1) := by decide +kernel
theorem dX2_stepBack_27 : decode cX2_stepBack 27 = .ok (.getfield 21, 3) := by decide +kernel
theorem dX2_stepBack_30 : decode cX2_stepBack 30 = .ok (.iconst 1, 1) := by decide +kernel
theorem dX2_stepBack_31 : decode cX2_stepBack 31 = .ok (.isub, 1) := by decide +kernel
theorem dX2_stepBack_32 : decode cX2_stepBack 32 = .ok (.putfield 21, 3) := by decide +kernel
theorem dX2_stepBack_35 : decode cX2_stepBack 35 = .ok (.aload_n 0, 1) := by decide +kernel
theorem dX2_stepBack_36 : decode cX2_stepBack 36 = .ok (.aload_n 1, 1) := by decide +kernel
theorem dX2_stepBack_37 : decode cX2_stepBack 37 = .ok (.invokevirtual 35, 3) := by decide +kernel
theorem dX2_stepBack_40 : decode cX2_stepBack 40 = .ok (.iconst 1, 1) := by decide +kernel
theorem dX2_stepBack_41 : decode cX2_stepBack 41 = .ok (.ireturn, 1) := by decide +kernel
theorem dX2_forget_0 : decode cX2_forget 0 = .ok (.aload_n 0, 1) := by decide +kernel
theorem dX2_forget_1 : decode cX2_forget 1 = .ok (.iconst 0, 1) := by decide +kernel
theorem dX2_forget_2 : decode cX2_forget 2 = .ok (.putfield 21, 3) := by decide +kernel
theorem dX2_forget_5 : decode cX2_forget 5 = .ok (.return_, 1) := by decide +kernel
theorem dX3_init_0 : decode cX3_init 0 = .ok (.aload_n 0, 1) := by decide +kernel
theorem dX3_init_1 : decode cX3_init 1 = .ok (.invokespecial 3, 3) := by decide +kernel
theorem dX3_init_4 : decode cX3_init 4 = .ok (.aload_n 0, 1) := by decide +kernel
theorem dX3_init_5 : decode cX3_init 5 = .ok (.iconst 4, 1) := by decide +kernel
theorem dX3_init_6 : decode cX3_init 6 = .ok (.newarray .int, 2) := by decide +kernel
theorem dX3_init_8 : decode cX3_init 8 = .ok (.putfield 9, 3) := by decide +kernel
theorem dX3_init_11 : decode cX3_init 11 = .ok (.return_, 1) := by decide +kernel
theorem dX3_sum_0 : decode cX3_sum 0 = .ok (.iconst 0, 1) := by decide +kernel
theorem dX3_sum_1 : decode cX3_sum 1 = .ok (.istore_n 1, 1) := by decide +kernel
theorem dX3_sum_2 : decode cX3_sum 2 = .ok (.iconst 0, 1) := by decide +kernel
theorem dX3_sum_3 : decode cX3_sum 3 = .ok (.istore_n 2, 1) := by decide +kernel
theorem dX3_sum_4 : decode cX3_sum 4 = .ok (.iload_n 2, 1) := by decide +kernel
theorem dX3_sum_5 : decode cX3_sum 5 = .ok (.iconst 4, 1) := by decide +kernel
theorem dX3_sum_6 : decode cX3_sum 6 = .ok (.if_icmp .ge 18, 3) := by decide +kernel
theorem dX3_sum_9 : decode cX3_sum 9 = .ok (.iload_n 1, 1) := by decide +kernel
theorem dX3_sum_10 : decode cX3_sum 10 = .ok (.aload_n 0, 1) := by decide +kernel
theorem dX3_sum_11 : decode cX3_sum 11 = .ok (.getfield 9, 3) := by decide +kernel
theorem dX3_sum_14 : decode cX3_sum 14 = .ok (.iload_n 2, 1) := by decide +kernel
theorem dX3_sum_15 : decode cX3_sum 15 = .ok (.iaload, 1) := by decide +kernel
theorem dX3_sum_16 : decode cX3_sum 16 = .ok (.iadd, 1) := by decide +kernel
theorem dX3_sum_17 : decode cX3_sum 17 = .ok (.istore_n 1, 1) := by decide +kernel
theorem dX3_sum_18 : decode cX3_sum 18 = .ok (.iinc 2 1, 3) := by decide +kernel
theorem dX3_sum_21 : decode cX3_sum 21 = .ok (.goto (-17), 3) := by decide +kernel
theorem dX3_sum_24 : decode cX3_sum 24 = .ok (.iload_n 1, 1) := by decide +kernel
theorem dX3_sum_25 : decode cX3_sum 25 = .ok (.ireturn, 1) := by decide +kernel
theorem dX3_copyFrom_0 : decode cX3_copyFrom 0 = .ok (.aload_n 1, 1) := by decide +kernel
theorem dX3_copyFrom_1 : decode cX3_copyFrom 1 = .ok (.getfield 9, 3) := by decide +kernel
theorem dX3_copyFrom_4 : decode cX3_copyFrom 4 = .ok (.iconst 0, 1) := by decide +kernel
theorem dX3_copyFrom_5 : decode cX3_copyFrom 5 = .ok (.aload_n 0, 1) := by decide +kernel
theorem dX3_copyFrom_6 : decode cX3_copyFrom 6 = .ok (.getfield 9, 3) := by decide +kernel
theorem dX3_copyFrom_9 : decode cX3_copyFrom 9 = .ok (.iconst 0, 1) := by decide +kernel
theorem dX3_copyFrom_10 : decode cX3_copyFrom 10 = .ok (.iconst 4, 1) := by decide +kernel
theorem dX3_copyFrom_11 : decode cX3_copyFrom 11 = .ok (.invokestatic 15, 3) := by decide +kernel
theorem dX3_copyFrom_14 : decode cX3_copyFrom 14 = .ok (.return_, 1) := by decide +kernel
theorem dX3_addAll_0 : decode cX3_addAll 0 = .ok (.iconst 0, 1) := by decide +kernel
theorem dX3_addAll_1 : decode cX3_addAll 1 = .ok (.istore_n 2, 1) := by decide +kernel
theorem dX3_addAll_2 : decode cX3_addAll 2 = .ok (.iload_n 2, 1) := by decide +kernel
theorem dX3_addAll_3 : decode cX3_addAll 3 = .ok (.iconst 4, 1) := by decide +kernel
theorem dX3_addAll_4 : decode cX3_addAll 4 = .ok (.if_icmp .ge 24, 3) := by decide +kernel
theorem dX3_addAll_7 : decode cX3_addAll 7 = .ok (.aload_n 0, 1) := by decide +kernel
theorem dX3_addAll_8 : decode cX3_addAll 8 = .ok (.getfield 9, 3) := by decide +kernel
theorem dX3_addAll_11 : decode cX3_addAll 11 = .ok (.iload_n 2, 1) := by decide +kernel
theorem dX3_addAll_12 : decode cX3_addAll 12 = .ok (.dup2, 1) := by decide +kernel
theorem dX3_addAll_13 : decode cX3_addAll 13 = .ok (.iaload, 1) := by decide +kernel
theorem dX3_addAll_14 : decode cX3_addAll 14 = .ok (.aload_n 1, 1) := by decide +kernel
theorem dX3_addAll_15 : decode cX3_addAll 15 = .ok (.getfield 9, 3) := by decide +kernel
theorem dX3_addAll_18 : decode cX3_addAll 18 = .ok (.iload_n 2, 1) := by decide +kernel
theorem dX3_addAll_19 : decode cX3_addAll 19 = .ok (.iaload, 1) := by decide +kernel
theorem dX3_addAll_20 : decode cX3_addAll 20 = .ok (.iadd, 1) := by decide +kernel
theorem dX3_addAll_21 : decode cX3_addAll 21 = .ok (.iastore, 1) := by decide +kernel
theorem dX3_addAll_22 : decode cX3_addAll 22 = .ok (.iinc 2 1, 3) := by decide +kernel
theorem dX3_addAll_25 : decode cX3_addAll 25 = .ok (.goto (-23), 3) := by decide +kernel
theorem dX3_addAll_28 : decode cX3_addAll 28 = .ok (.return_, 1) := by decide +kernel
theorem dX3_clear_0 : decode cX3_clear 0 = .ok (.iconst 0, 1) := by decide +kernel
theorem dX3_clear_1 : decode cX3_clear 1 = .ok (.istore_n 1, 1) := by decide +kernel
theorem dX3_clear_2 : decode cX3_clear 2 = .ok (.iload_n 1, 1) := by decide +kernel
theorem dX3_clear_3 : decode cX3_clear 3 = .ok (.iconst 4, 1) := by decide +kernel
theorem dX3_clear_4 : decode cX3_clear 4 = .ok (.if_icmp .ge 16, 3) := by decide +kernel
theorem dX3_clear_7 : decode cX3_clear 7 = .ok (.aload_n 0, 1) := by decide +kernel
theorem dX3_clear_8 : decode cX3_clear 8 = .ok (.getfield 9, 3) := by decide +kernel
theorem dX3_clear_11 : decode cX3_clear 11 = .ok (.iload_n 1, 1) := by decide +kernel
theorem dX3_clear_12 : decode cX3_clear 12 = .ok (.iconst 0, 1) := by decide +kernel
theorem dX3_clear_13 : decode cX3_clear 13 = .ok (.iastore, 1) := by decide +kernel
theorem dX3_clear_14 : decode cX3_clear 14 = .ok (.iinc 1 1, 3) := by decide +kernel
theorem dX3_clear_17 : decode cX3_clear 17 = .ok (.goto (-15), 3) := by decide +kernel
theorem dX3_clear_20 : decode cX3_clear 20 = .ok (.return_, 1) := by decide +kernel
theorem dX3_mostOf_0 : decode cX3_mostOf 0 = .ok (.iconst 0, 1) := by decide +kernel
theorem dX3_mostOf_1 : decode cX3_mostOf 1 = .ok (.istore_n 2, 1) := by decide +kernel
theorem dX3_mostOf_2 : decode cX3_mostOf 2 = .ok (.iconst 1, 1) := by decide +kernel
theorem dX3_mostOf_3 : decode cX3_mostOf 3 = .ok (.istore_n 3, 1) := by decide +kernel
theorem dX3_mostOf_4 : decode cX3_mostOf 4 = .ok (.iload_n 3, 1) := by decide +kernel
theorem dX3_mostOf_5 : decode cX3_mostOf 5 = .ok (.iload_n 1, 1) := by decide +kernel
theorem dX3_mostOf_6 : decode cX3_mostOf 6 = .ok (.if_icmp .ge 31, 3) := by decide +kernel
theorem dX3_mostOf_9 : decode cX3_mostOf 9 = .ok (.iload_n 3, 1) := by decide +kernel
theorem dX3_mostOf_10 : decode cX3_mostOf 10 = .ok (.iconst 4, 1) := by decide +kernel
theorem dX3_mostOf_11 : decode cX3_mostOf 11 = .ok (.if_icmp .ge 26, 3) := by decide +kernel
theorem dX3_mostOf_14 : decode cX3_mostOf 14 = .ok (.aload_n 0, 1) := by decide +kernel
theorem dX3_mostOf_15 : decode cX3_mostOf 15 = .ok (.getfield 9, 3) := by decide +kernel
theorem dX3_mostOf_18 : decode cX3_mostOf 18 = .ok (.iload_n 3, 1) := by decide +kernel
theorem dX3_mostOf_19 : decode cX3_mostOf 19 = .ok (.iaload, 1) := by decide +kernel
theorem dX3_mostOf_20 : decode cX3_mostOf 20 = .ok (.aload_n 0, 1) := by decide +kernel
theorem dX3_mostOf_21 : decode cX3_mostOf 21 = .ok (.getfield 9, 3) := by decide +kernel
theorem dX3_mostOf_24 : decode cX3_mostOf 24 = .ok (.iload_n 2, 1) := by decide +kernel
theorem dX3_mostOf_25 : decode cX3_mostOf 25 = .ok (.iaload, 1) := by decide +kernel
theorem dX3_mostOf_26 : decode cX3_mostOf 26 = .ok (.if_icmp .le 5, 3) := by decide +kernel
theorem dX3_mostOf_29 : decode cX3_mostOf 29 = .ok (.iload_n 3, 1) := by decide +kernel
theorem dX3_mostOf_30 : decode cX3_mostOf 30 = .ok (.istore_n 2, 1) := by decide +kernel
theorem dX3_mostOf_31 : decode cX3_mostOf 31 = .ok (.iinc 3 1, 3) := by decide +kernel
theorem dX3_mostOf_34 : decode cX3_mostOf 34 = .ok (.goto (-30), 3) := by decide +kernel
theorem dX3_mostOf_37 : decode cX3_mostOf 37 = .ok (.iload_n 2, 1) := by decide +kernel
theorem dX3_mostOf_38 : decode cX3_mostOf 38 = .ok (.ireturn, 1) := by decide +kernel
theorem dX3_movePart_0 : decode cX3_movePart 0 = .ok (.aload_n 0, 1) := by decide +kernel
theorem dX3_movePart_1 : decode cX3_movePart 1 = .ok (.invokevirtual 21, 3) := by decide +kernel
theorem dX3_movePart_4 : decode cX3_movePart 4 = .ok (.istore_n 3, 1) := by decide +kernel
theorem dX3_movePart_5 : decode cX3_movePart 5 = .ok (.iload_n 3, 1) := by decide +kernel
theorem dX3_movePart_6 : decode cX3_movePart 6 = .ok (.ifCond .gt 4, 3) := by decide +kernel
theorem dX3_movePart_9 : decode cX3_movePart 9 = .ok (.return_, 1) := by decide +kernel
theorem dX3_movePart_10 : decode cX3_movePart 10 = .ok (.iload_n 1, 1) := by decide +kernel
theorem dX3_movePart_11 : decode cX3_movePart 11 = .ok (.istore 4, 2) := by decide +kernel
theorem dX3_movePart_13 : decode cX3_movePart 13 = .ok (.iconst 0, 1) := by decide +kernel
theorem dX3_movePart_14 : decode cX3_movePart 14 = .ok (.istore 5, 2) := by decide +kernel
theorem dX3_movePart_16 : decode cX3_movePart 16 = .ok (.iload 5, 2) := by decide +kernel
theorem dX3_movePart_18 : decode cX3_movePart 18 = .ok (.iconst 4, 1) := by decide +kernel
theorem dX3_movePart_19 : decode cX3_movePart 19 = .ok (.if_icmp .ge 38, 3) := by decide +kernel
theorem dX3_movePart_22 : decode cX3_movePart 22 = .ok (.aload_n 0, 1) := by decide +kernel
theorem dX3_movePart_23 : decode cX3_movePart 23 = .ok (.getfield 9, 3) := by decide +kernel
theorem dX3_movePart_26 : decode cX3_movePart 26 = .ok (.iload 5, 2) := by decide +kernel
theorem dX3_movePart_28 : decode cX3_movePart 28 = .ok (.iaload, 1) := by decide +kernel
theorem dX3_movePart_29 : decode cX3_movePart 29 = .ok (.iload_n 1, 1) := by decide +kernel
theorem dX3_movePart_30 : decode cX3_movePart 30 = .ok (.imul, 1) := by decide +kernel
theorem dX3_movePart_31 : decode cX3_movePart 31 = .ok (.iload_n 3, 1) := by decide +kernel
theorem dX3_movePart_32 : decode cX3_movePart 32 = .ok (.idiv, 1) := by decide +kernel
theorem dX3_movePart_33 : decode cX3_movePart 33 = .ok (.istore 6, 2) := by decide +kernel
theorem dX3_movePart_35 : decode cX3_movePart 35 = .ok (.aload_n 0, 1) := by decide +kernel
theorem dX3_movePart_36 : decode cX3_movePart 36 = .ok (.iload 5, 2) := by decide +kernel
theorem dX3_movePart_38 : decode cX3_movePart 38 = .ok (.iload 6, 2) := by decide +kernel
theorem dX3_movePart_40 : decode cX3_movePart 40 = .ok (.aload_n 2, 1) := by decide +kernel
theorem dX3_movePart_41 : decode cX3_movePart 41 = .ok (.invokevirtual 25, 3) := by decide +kernel
theorem dX3_movePart_44 : decode cX3_movePart 44 = .ok (.iload 4, 2) := by decide +kernel
theorem dX3_movePart_46 : decode cX3_movePart 46 = .ok (.iload 6, 2) := by decide +kernel
theorem dX3_movePart_48 : decode cX3_movePart 48 = .ok (.isub, 1) := by decide +kernel
theorem dX3_movePart_49 : decode cX3_movePart 49 = .ok (.istore 4, 2) := by decide +kernel
theorem dX3_movePart_51 : decode cX3_movePart 51 = .ok (.iinc 5 1, 3) := by decide +kernel
theorem dX3_movePart_54 : decode cX3_movePart 54 = .ok (.goto (-38), 3) := by decide +kernel
theorem dX3_movePart_57 : decode cX3_movePart 57 = .ok (.iload 4, 2) := by decide +kernel
theorem dX3_movePart_59 : decode cX3_movePart 59 = .ok (.istore 5, 2) := by decide +kernel
theorem dX3_movePart_61 : decode cX3_movePart 61 = .ok (.iload 5, 2) := by decide +kernel
theorem dX3_movePart_63 : decode cX3_movePart 63 = .ok (.ifCond .le 20, 3) := by decide +kernel
theorem dX3_movePart_66 : decode cX3_movePart 66 = .ok (.aload_n 0, 1) := by decide +kernel
theorem dX3_movePart_67 : decode cX3_movePart 67 = .ok (.aload_n 0, 1) := by decide +kernel
theorem dX3_movePart_68 : decode cX3_movePart 68 = .ok (.iconst 4, 1) := by decide +kernel
theorem dX3_movePart_69 : decode cX3_movePart 69 = .ok (.invokevirtual 29, 3) := by decide +kernel
theorem dX3_movePart_72 : decode cX3_movePart 72 = .ok (.iconst 1, 1) := by decide +kernel
theorem dX3_movePart_73 : decode cX3_movePart 73 = .ok (.aload_n 2, 1) := by decide +kernel
theorem dX3_movePart_74 : decode cX3_movePart 74 = .ok (.invokevirtual 25, 3) := by decide +kernel
theorem dX3_movePart_77 : decode cX3_movePart 77 = .ok (.iinc 5 (-1), 3) := by decide +kernel
theorem dX3_movePart_80 : decode cX3_movePart 80 = .ok (.goto (-19), 3) := by decide +kernel
theorem dX3_movePart_83 : decode cX3_movePart 83 = .ok (.return_, 1) := by decide +kernel
theorem dX3_move_0 : decode cX3_move 0 = .ok (.aload_n 0, 1) := by decide +kernel
theorem dX3_move_1 : decode cX3_move 1 = .ok (.getfield 9, 3) := by decide +kernel
theorem dX3_move_4 : decode cX3_move 4 = .ok (.iload_n 1, 1) := by decide +kernel
theorem dX3_move_5 : decode cX3_move 5 = .ok (.dup2, 1) := by decide +kernel
theorem dX3_move_6 : decode cX3_move 6 = .ok (.iaload, 1) := by decide +kernel
theorem dX3_move_7 : decode cX3_move 7 = .ok (.iload_n 2, 1) := by decide +kernel
theorem dX3_move_8 : decode cX3_move 8 = .ok (.isub, 1) := by decide +kernel
theorem dX3_move_9 : decode cX3_move 9 = .ok (.iastore, 1) := by decide +kernel
theorem dX3_move_10 : decode cX3_move 10 = .ok (.aload_n 3, 1) := by decide +kernel
theorem dX3_move_11 : decode cX3_move 11 = .ok (.getfield 9, 3) := by decide +kernel
theorem dX3_move_14 : decode cX3_move 14 = .ok (.iload_n 1, 1) := by decide +kernel
theorem dX3_move_15 : decode cX3_move 15 = .ok (.dup2, 1) := by decide +kernel
theorem dX3_move_16 : decode cX3_move 16 = .ok (.iaload, 1) := by decide +kernel
theorem dX3_move_17 : decode cX3_move 17 = .ok (.iload_n 2, 1) := by decide +kernel
theorem dX3_move_18 : decode cX3_move 18 = .ok (.iadd, 1) := by decide +kernel
theorem dX3_move_19 : decode cX3_move 19 = .ok (.iastore, 1) := by decide +kernel
theorem dX3_move_20 : decode cX3_move 20 = .ok (.return_, 1) := by decide +kernel
theorem dX3_pointBySums_0 : decode cX3_pointBySums 0 = .ok (.iconst 0, 1) := by decide +kernel
theorem dX3_pointBySums_1 : decode cX3_pointBySums 1 = .ok (.istore_n 1, 1) := by decide +kernel
theorem dX3_pointBySums_2 : decode cX3_pointBySums 2 = .ok (.iconst 0, 1) := by decide +kernel
theorem dX3_pointBySums_3 : decode cX3_pointBySums 3 = .ok (.istore_n 2, 1) := by decide +kernel
theorem dX3_pointBySums_4 : decode cX3_pointBySums 4 = .ok (.iconst 0, 1) := by decide +kernel
theorem dX3_pointBySums_5 : decode cX3_pointBySums 5 = .ok (.istore_n 3, 1) := by decide +kernel
theorem dX3_pointBySums_6 : decode cX3_pointBySums 6 = .ok (.iload_n 3, 1) := by decide +kernel
theorem dX3_pointBySums_7 : decode cX3_pointBySums 7 = .ok (.iconst 4, 1) := by decide +kernel
theorem dX3_pointBySums_8 : decode cX3_pointBySums 8 = .ok (.if_icmp .ge 33, 3) := by decide +kernel
theorem dX3_pointBySums_11 : decode cX3_pointBySums 11 = .ok (.iload_n 1, 1) := by decide +kernel
theorem dX3_pointBySums_12 : decode cX3_pointBySums 12 = .ok (.aload_n 0, 1) := by decide +kernel
theorem dX3_pointBySums_13 : decode cX3_pointBySums 13 = .ok (.getfield 9, 3) := by decide +kernel
theorem dX3_pointBySums_16 : decode cX3_pointBySums 16 = .ok (.iload_n 3, 1) := by decide +kernel
theorem dX3_pointBySums_17 : decode cX3_pointBySums 17 = .ok (.iaload, 1) := by decide +kernel
theorem dX3_pointBySums_18 : decode cX3_pointBySums 18 = .ok (.getstatic 33, 3) := by decide +kernel
theorem dX3_pointBySums_21 : decode cX3_pointBySums 21 = .ok (.iload_n 3, 1) := by decide +kernel
theorem dX3_pointBySums_22 : decode cX3_pointBySums 22 = .ok (.iaload, 1) := by decide +kernel
theorem dX3_pointBySums_23 : decode cX3_pointBySums 23 = .ok (.imul, 1) := by decide +kernel
theorem dX3_pointBySums_24 : decode cX3_pointBySums 24 = .ok (.iadd, 1) := by decide +kernel
theorem dX3_pointBySums_25 : decode cX3_pointBySums 25 = .ok (.istore_n 1, 1) := by decide +kernel
theorem dX3_pointBySums_26 : decode cX3_pointBySums 26 = .ok (.iload_n 2, 1) := by decide +kernel
theorem dX3_pointBySums_27 : decode cX3_pointBySums 27 = .ok (.aload_n 0, 1) := by decide +kernel
theorem dX3_pointBySums_28 : decode cX3_pointBySums 28 = .ok (.getfield 9, 3) := by decide +kernel
theorem dX3_pointBySums_31 : decode cX3_pointBySums 31 = .ok (.iload_n 3, 1) := by decide +kernel
theorem dX3_pointBySums_32 : decode cX3_pointBySums 32 = .ok (.iaload, 1) := by decide +kernel
theorem dX3_pointBySums_33 : decode cX3_pointBySums 33 = .ok (.iadd, 1) := by decide +kernel
theorem dX3_pointBySums_34 : decode cX3_pointBySums 34 = .ok (.istore_n 2, 1) := by decide +kernel
theorem dX3_pointBySums_35 : decode cX3_pointBySums 35 = .ok (.iinc 3 1, 3) := by decide +kernel
theorem dX3_pointBySums_38 : decode cX3_pointBySums 38 = .ok (.goto (-32), 3) := by decide +kernel
theorem dX3_pointBySums_41 : decode cX3_pointBySums 41 = .ok (.iload_n 2, 1) := by decide +kernel
theorem dX3_pointBySums_42 : decode cX3_pointBySums 42 = .ok (.ifCond .le 9, 3) := by decide +kernel
theorem dX3_pointBySums_45 : decode cX3_pointBySums 45 = .ok (.iload_n 1, 1) := by decide +kernel
theorem dX3_pointBySums_46 : decode cX3_pointBySums 46 = .ok (.iload_n 2, 1) := by decide +kernel
theorem dX3_pointBySums_47 : decode cX3_pointBySums 47 = .ok (.idiv, 1) := by decide +kernel
theorem dX3_pointBySums_48 : decode cX3_pointBySums 48 = .ok (.goto 4, 3) := by decide +kernel
theorem dX3_pointBySums_51 : decode cX3_pointBySums 51 = .ok (.iconst 0, 1) := by decide +kernel
theorem dX3_pointBySums_52 : decode cX3_pointBySums 52 = .ok (.ireturn, 1) := by decide +kernel
theorem dX3_pointByDifferences_0 : decode cX3_pointByDifferences 0 = .ok (.getstatic 33, 3) := by decide +kernel
theorem dX3_pointByDifferences_3 : decode cX3_pointByDifferences 3 = .ok (.iconst 1, 1) := by decide +kernel
theorem dX3_pointByDifferences_4 : decode cX3_pointByDifferences 4 = .ok (.iaload, 1) := by decide +kernel
theorem dX3_pointByDifferences_5 : decode cX3_pointByDifferences 5 = .ok (.istore_n 1, 1) := by decide +kernel
theorem dX3_pointByDifferences_6 : decode cX3_pointByDifferences 6 = .ok (.iconst 0, 1) := by decide +kernel
theorem dX3_pointByDifferences_7 : decode cX3_pointByDifferences 7 = .ok (.istore_n 2, 1) := by decide +kernel
theorem dX3_pointByDifferences_8 : decode cX3_pointByDifferences 8 = .ok (.iconst 0, 1) := by decide +kernel
theorem dX3_pointByDifferences_9 : decode cX3_pointByDifferences 9 = .ok (.istore_n 3, 1) := by decide +kernel
theorem dX3_pointByDifferences_10 : decode cX3_pointByDifferences 10 = .ok (.iconst 0, 1) := by decide +kernel
theorem dX3_pointByDifferences_11 : decode cX3_pointByDifferences 11 = .ok (.istore 4, 2) := by decide +kernel
theorem dX3_pointByDifferences_13 : decode cX3_pointByDifferences 13 = .ok (.iload 4, 2) := by decide +kernel
theorem dX3_pointByDifferences_15 : decode cX3_pointByDifferences 15 = .ok (.iconst 4, 1) := by decide +kernel
theorem dX3_pointByDifferences_16 : decode cX3_pointByDifferences 16 = .ok (.if_icmp .ge 38, 3) := by decide +kernel
theorem dX3_pointByDifferences_19 : decode cX3_pointByDifferences 19 = .ok (.iload_n 2, 1) := by decide +kernel
theorem dX3_pointByDifferences_20 : decode cX3_pointByDifferences 20 = .ok (.aload_n 0, 1) := by decide +kernel
theorem dX3_pointByDifferences_21 : decode cX3_pointByDifferences 21 = .ok (.getfield 9, 3) := by decide +kernel
theorem dX3_pointByDifferences_24 : decode cX3_pointByDifferences 24 = .ok (.iload 4, 2) := by decide +kernel
theorem dX3_pointByDifferences_26 : decode cX3_pointByDifferences 26 = .ok (.iaload, 1) := by decide +kernel
theorem dX3_pointByDifferences_27 : decode cX3_pointByDifferences 27 = .ok (.getstatic 33, 3) := by decide +kernel
theorem dX3_pointByDifferences_30 : decode cX3_pointByDifferences 30 = .ok (.iload 4, 2) := by decide +kernel
theorem dX3_pointByDifferences_32 : decode cX3_pointByDifferences 32 = .ok (.iaload, 1) := by decide +kernel
theorem dX3_pointByDifferences_33 : decode cX3_pointByDifferences 33 = .ok (.iload_n 1, 1) := by decide +kernel
theorem dX3_pointByDifferences_34 : decode cX3_pointByDifferences 34 = .ok (.isub, 1) := by decide +kernel
theorem dX3_pointByDifferences_35 : decode cX3_pointByDifferences 35 = .ok (.imul, 1) := by decide +kernel
theorem dX3_pointByDifferences_36 : decode cX3_pointByDifferences 36 = .ok (.iadd, 1) := by decide +kernel
theorem dX3_pointByDifferences_37 : decode cX3_pointByDifferences 37 = .ok (.istore_n 2, 1) := by decide +kernel
theorem dX3_pointByDifferences_38 : decode cX3_pointByDifferences 38 = .ok (.iload_n 3, 1) := by decide +kernel
theorem dX3_pointByDifferences_39 : decode cX3_pointByDifferences 39 = .ok (.aload_n 0, 1) := by decide +kernel
theorem dX3_pointByDifferences_40 : decode cX3_pointByDifferences 40 = .ok (.getfield 9, 3) := by decide +kernel
theorem dX3_pointByDifferences_43 : decode cX3_pointByDifferences 43 = .ok (.iload 4, 2) := by decide +kernel
theorem dX3_pointByDifferences_45 : decode cX3_pointByDifferences 45 = .ok (.iaload, 1) := by decide +kernel
theorem dX3_pointByDifferences_46 : decode cX3_pointByDifferences 46 = .ok (.iadd, 1) := by decide +kernel
theorem dX3_pointByDifferences_47 : decode cX3_pointByDifferences 47 = .ok (.istore_n 3, 1) := by decide +kernel
theorem dX3_pointByDifferences_48 : decode cX3_pointByDifferences 48 = .ok (.iinc 4 1, 3) := by decide +kernel
theorem dX3_pointByDifferences_51 : decode cX3_pointByDifferences 51 = .ok (.goto (-38), 3) := by decide +kernel
theorem dX3_pointByDifferences_54 : decode cX3_pointByDifferences 54 = .ok (.iload_n 3, 1) := by decide +kernel
theorem dX3_pointByDifferences_55 : decode cX3_pointByDifferences 55 = .ok (.ifCond .le 11, 3) := by decide +kernel
theorem dX3_pointByDifferences_58 : decode cX3_pointByDifferences 58 = .ok (.iload_n 1, 1) := by decide +kernel
theorem dX3_pointByDifferences_59 : decode cX3_pointByDifferences 59 = .ok (.iload_n 2, 1) := by decide +kernel
theorem dX3_pointByDifferences_60 : decode cX3_pointByDifferences 60 = .ok (.iload_n 3, 1) := by decide +kernel
theorem dX3_pointByDifferences_61 : decode cX3_pointByDifferences 61 = .ok (.idiv, 1) := by decide +kernel
theorem dX3_pointByDifferences_62 : decode cX3_pointByDifferences 62 = .ok (.iadd, 1) := by decide +kernel
theorem dX3_pointByDifferences_63 : decode cX3_pointByDifferences 63 = .ok (.goto 4, 3) := by decide +kernel
theorem dX3_pointByDifferences_66 : decode cX3_pointByDifferences 66 = .ok (.iconst 0, 1) := by decide +kernel
theorem dX3_pointByDifferences_67 : decode cX3_pointByDifferences 67 = .ok (.ireturn, 1) := by decide +kernel
theorem dX3_thousandths_0 : decode cX3_thousandths 0 = .ok (.aload_n 0, 1) := by decide +kernel
theorem dX3_thousandths_1 : decode cX3_thousandths 1 = .ok (.invokevirtual 21, 3) := by decide +kernel
theorem dX3_thousandths_4 : decode cX3_thousandths 4 = .ok (.istore_n 2, 1) := by decide +kernel
theorem dX3_thousandths_5 : decode cX3_thousandths 5 = .ok (.iload_n 2, 1) := by decide +kernel
theorem dX3_thousandths_6 : decode cX3_thousandths 6 = .ok (.ifCond .le 18, 3) := by decide +kernel
theorem dX3_thousandths_9 : decode cX3_thousandths 9 = .ok (.sipush 1000, 3) := by decide +kernel
theorem dX3_thousandths_12 : decode cX3_thousandths 12 = .ok (.aload_n 0, 1) := by decide +kernel
theorem dX3_thousandths_13 : decode cX3_thousandths 13 = .ok (.getfield 9, 3) := by decide +kernel
theorem dX3_thousandths_16 : decode cX3_thousandths 16 = .ok (.iload_n 1, 1) := by decide +kernel
theorem dX3_thousandths_17 : decode cX3_thousandths 17 = .ok (.iaload, 1) := by decide +kernel
theorem dX3_thousandths_18 : decode cX3_thousandths 18 = .ok (.imul, 1) := by decide +kernel
theorem dX3_thousandths_19 : decode cX3_thousandths 19 = .ok (.iload_n 2, 1) := by decide +kernel
theorem dX3_thousandths_20 : decode cX3_thousandths 20 = .ok (.idiv, 1) := by decide +kernel
theorem dX3_thousandths_21 : decode cX3_thousandths 21 = .ok (.goto 4, 3) := by decide +kernel
theorem dX3_thousandths_24 : decode cX3_thousandths 24 = .ok (.iconst 0, 1) := by decide +kernel
theorem dX3_thousandths_25 : decode cX3_thousandths 25 = .ok (.ireturn, 1) := by decide +kernel
theorem dX3_quality_0 : decode cX3_quality 0 = .ok (.aload_n 0, 1) := by decide +kernel
theorem dX3_quality_1 : decode cX3_quality 1 = .ok (.iconst 0, 1) := by decide +kernel
theorem dX3_quality_2 : decode cX3_quality 2 = .ok (.invokevirtual 36, 3) := by decide +kernel
theorem dX3_quality_5 : decode cX3_quality 5 = .ok (.istore_n 1, 1) := by decide +kernel
theorem dX3_quality_6 : decode cX3_quality 6 = .ok (.aload_n 0, 1) := by decide +kernel
theorem dX3_quality_7 : decode cX3_quality 7 = .ok (.iconst 1, 1) := by decide +kernel
theorem dX3_quality_8 : decode cX3_quality 8 = .ok (.invokevirtual 36, 3) := by decide +kernel
theorem dX3_quality_11 : decode cX3_quality 11 = .ok (.istore_n 2, 1) := by decide +kernel
theorem dX3_quality_12 : decode cX3_quality 12 = .ok (.aload_n 0, 1) := by decide +kernel
theorem dX3_quality_13 : decode cX3_quality 13 = .ok (.iconst 3, 1) := by decide +kernel
theorem dX3_quality_14 : decode cX3_quality 14 = .ok (.invokevirtual 36, 3) := by decide +kernel
theorem dX3_quality_17 : decode cX3_quality 17 = .ok (.bipush 50, 2) := by decide +kernel
theorem dX3_quality_19 : decode cX3_quality 19 = .ok (.if_icmp .le 6, 3) := by decide +kernel
theorem dX3_quality_22 : decode cX3_quality 22 = .ok (.bipush 120, 2) := by decide +kernel
theorem dX3_quality_24 : decode cX3_quality 24 = .ok (.ireturn, 1) := by decide +kernel
theorem dX3_quality_25 : decode cX3_quality 25 = .ok (.iload_n 1, 1) := by decide +kernel
theorem dX3_quality_26 : decode cX3_quality 26 = .ok (.sipush 950, 3) := by decide +kernel
theorem dX3_quality_29 : decode cX3_quality 29 = .ok (.if_icmp .lt 6, 3) := by decide +kernel
theorem dX3_quality_32 : decode cX3_quality 32 = .ok (.bipush 99, 2) := by decide +kernel
theorem dX3_quality_34 : decode cX3_quality 34 = .ok (.ireturn, 1) := by decide +kernel
theorem dX3_quality_35 : decode cX3_quality 35 = .ok (.iload_n 1, 1) := by decide +kernel
theorem dX3_quality_36 : decode cX3_quality 36 = .ok (.sipush 800, 3) := by decide +kernel
theorem dX3_quality_39 : decode cX3_quality 39 = .ok (.if_icmp .lt 12, 3) := by decide +kernel
theorem dX3_quality_42 : decode cX3_quality 42 = .ok (.iload_n 2, 1) := by decide +kernel
theorem dX3_quality_43 : decode cX3_quality 43 = .ok (.bipush 100, 2) := by decide +kernel
theorem dX3_quality_45 : decode cX3_quality 45 = .ok (.if_icmp .lt 6, 3) := by decide +kernel
theorem dX3_quality_48 : decode cX3_quality 48 = .ok (.bipush 98, 2) := by decide +kernel
theorem dX3_quality_50 : decode cX3_quality 50 = .ok (.ireturn, 1) := by decide +kernel
theorem dX3_quality_51 : decode cX3_quality 51 = .ok (.iload_n 2, 1) := by decide +kernel
theorem dX3_quality_52 : decode cX3_quality 52 = .ok (.sipush 500, 3) := by decide +kernel
theorem dX3_quality_55 : decode cX3_quality 55 = .ok (.if_icmp .lt 17, 3) := by decide +kernel
theorem dX3_quality_58 : decode cX3_quality 58 = .ok (.aload_n 0, 1) := by decide +kernel
theorem dX3_quality_59 : decode cX3_quality 59 = .ok (.iconst 2, 1) := by decide +kernel
theorem dX3_quality_60 : decode cX3_quality 60 = .ok (.invokevirtual 36, 3) := by decide +kernel
theorem dX3_quality_63 : decode cX3_quality 63 = .ok (.sipush 300, 3) := by decide +kernel
theorem dX3_quality_66 : decode cX3_quality 66 = .ok (.if_icmp .lt 6, 3) := by decide +kernel
theorem dX3_quality_69 : decode cX3_quality 69 = .ok (.bipush 115, 2) := by decide +kernel
theorem dX3_quality_71 : decode cX3_quality 71 = .ok (.ireturn, 1) := by decide +kernel
theorem dX3_quality_72 : decode cX3_quality 72 = .ok (.bipush 120, 2) := by decide +kernel
theorem dX3_quality_74 : decode cX3_quality 74 = .ok (.ireturn, 1) := by decide +kernel
theorem dX4_init_0 : decode cX4_init 0 = .ok (.aload_n 0, 1) := by decide +kernel
theorem dX4_init_1 : decode cX4_init 1 = .ok (.invokespecial 3, 3) := by decide +kernel
theorem dX4_init_4 : decode cX4_init 4 = .ok (.aload_n 0, 1) := by decide +kernel
theorem dX4_init_5 : decode cX4_init 5 = .ok (.iconst 3, 1) := by decide +kernel
theorem dX4_init_6 : decode cX4_init 6 = .ok (.anewarray 9, 3) := by decide +kernel
theorem dX4_init_9 : decode cX4_init 9 = .ok (.putfield 11, 3) := by decide +kernel
theorem dX4_init_12 : decode cX4_init 12 = .ok (.aload_n 0, 1) := by decide +kernel
theorem dX4_init_13 : decode cX4_init 13 = .ok (.iconst 3, 1) := by decide +kernel
theorem dX4_init_14 : decode cX4_init 14 = .ok (.newarray .int, 2) := by decide +kernel
theorem dX4_init_16 : decode cX4_init 16 = .ok (.putfield 17, 3) := by decide +kernel
theorem dX4_init_19 : decode cX4_init 19 = .ok (.aload_n 0, 1) := by decide +kernel
theorem dX4_init_20 : decode cX4_init 20 = .ok (.iconst 3, 1) := by decide +kernel
theorem dX4_init_21 : decode cX4_init 21 = .ok (.anewarray 9, 3) := by decide +kernel
theorem dX4_init_24 : decode cX4_init 24 = .ok (.putfield 21, 3) := by decide +kernel
theorem dX4_init_27 : decode cX4_init 27 = .ok (.aload_n 0, 1) := by decide +kernel
theorem dX4_init_28 : decode cX4_init 28 = .ok (.bipush 6, 2) := by decide +kernel
theorem dX4_init_30 : decode cX4_init 30 = .ok (.anewarray 24, 3) := by decide +kernel
theorem dX4_init_33 : decode cX4_init 33 = .ok (.putfield 26, 3) := by decide +kernel
theorem dX4_init_36 : decode cX4_init 36 = .ok (.aload_n 0, 1) := by decide +kernel
theorem dX4_init_37 : decode cX4_init 37 = .ok (.bipush 6, 2) := by decide +kernel
theorem dX4_init_39 : decode cX4_init 39 = .ok (.newarray .int, 2) := by decide +kernel
theorem dX4_init_41 : decode cX4_init 41 = .ok (.putfield 30, 3) := by decide +kernel
theorem dX4_init_44 : decode cX4_init 44 = .ok (.aload_n 0, 1) := by decide +kernel
theorem dX4_init_45 : decode cX4_init 45 = .ok (.iconst 0, 1) := by decide +kernel
theorem dX4_init_46 : decode cX4_init 46 = .ok (.putfield 33, 3) := by decide +kernel
theorem dX4_init_49 : decode cX4_init 49 = .ok (.aload_n 0, 1) := by decide +kernel
theorem dX4_init_50 : decode cX4_init 50 = .ok (.bipush 12, 2) := by decide +kernel
theorem dX4_init_52 : decode cX4_init 52 = .ok (.anewarray 24, 3) := by decide +kernel
theorem dX4_init_55 : decode cX4_init 55 = .ok (.putfield 37, 3) := by decide +kernel
theorem dX4_init_58 : decode cX4_init 58 = .ok (.aload_n 0, 1) := by decide +kernel
theorem dX4_init_59 : decode cX4_init 59 = .ok (.iconst 0, 1) := by decide +kernel
theorem dX4_init_60 : decode cX4_init 60 = .ok (.putfield 40, 3) := by decide +kernel
theorem dX4_init_63 : decode cX4_init 63 = .ok (.aload_n 0, 1) := by decide +kernel
theorem dX4_init_64 : decode cX4_init 64 = .ok (.new 24, 3) := by decide +kernel
theorem dX4_init_67 : decode cX4_init 67 = .ok (.dup, 1) := by decide +kernel
theorem dX4_init_68 : decode cX4_init 68 = .ok (.invokespecial 43, 3) := by decide +kernel
theorem dX4_init_71 : decode cX4_init 71 = .ok (.putfield 44, 3) := by decide +kernel
theorem dX4_init_74 : decode cX4_init 74 = .ok (.aload_n 0, 1) := by decide +kernel
theorem dX4_init_75 : decode cX4_init 75 = .ok (.new 24, 3) := by decide +kernel
theorem dX4_init_78 : decode cX4_init 78 = .ok (.dup, 1) := by decide +kernel
theorem dX4_init_79 : decode cX4_init 79 = .ok (.invokespecial 43, 3) := by decide +kernel
theorem dX4_init_82 : decode cX4_init 82 = .ok (.putfield 48, 3) := by decide +kernel
theorem dX4_init_85 : decode cX4_init 85 = .ok (.aload_n 0, 1) := by decide +kernel
theorem dX4_init_86 : decode cX4_init 86 = .ok (.iconst 0, 1) := by decide +kernel
theorem dX4_init_87 : decode cX4_init 87 = .ok (.putfield 51, 3) := by decide +kernel
theorem dX4_init_90 : decode cX4_init 90 = .ok (.iconst 0, 1) := by decide +kernel
theorem dX4_init_91 : decode cX4_init 91 = .ok (.istore_n 1, 1) := by decide +kernel
theorem dX4_init_92 : decode cX4_init 92 = .ok (.iload_n 1, 1) := by decide +kernel
theorem dX4_init_93 : decode cX4_init 93 = .ok (.iconst 3, 1) := by decide +kernel
theorem dX4_init_94 : decode cX4_init 94 = .ok (.if_icmp .ge 24, 3) := by decide +kernel
theorem dX4_init_97 : decode cX4_init 97 = .ok (.aload_n 0, 1) := by decide +kernel
theorem dX4_init_98 : decode cX4_init 98 = .ok (.getfield 11, 3) := by decide +kernel
theorem dX4_init_101 : decode cX4_init 101 = .ok (.iload_n 1, 1) := by decide +kernel
theorem dX4_init_102 : decode cX4_init 102 = .ok (.new 9, 3) := by decide +kernel
theorem dX4_init_105 : decode cX4_init 105 = .ok (.dup, 1) := by decide +kernel
theorem dX4_init_106 : decode cX4_init 106 = .ok (.bipush 10, 2) := by decide +kernel
theorem dX4_init_108 : decode cX4_init 108 = .ok (.invokespecial 54, 3) := by decide +kernel
theorem dX4_init_111 : decode cX4_init 111 = .ok (.aastore, 1) := by decide +kernel
theorem dX4_init_112 : decode cX4_init 112 = .ok (.iinc 1 1, 3) := by decide +kernel
theorem dX4_init_115 : decode cX4_init 115 = .ok (.goto (-23), 3) := by decide +kernel
theorem dX4_init_118 : decode cX4_init 118 = .ok (.iconst 0, 1) := by decide +kernel
theorem dX4_init_119 : decode cX4_init 119 = .ok (.istore_n 1, 1) := by decide +kernel
theorem dX4_init_120 : decode cX4_init 120 = .ok (.iload_n 1, 1) := by decide +kernel
theorem dX4_init_121 : decode cX4_init 121 = .ok (.iconst 3, 1) := by decide +kernel
theorem dX4_init_122 : decode cX4_init 122 = .ok (.if_icmp .ge 23, 3) := by decide +kernel
theorem dX4_init_125 : decode cX4_init 125 = .ok (.aload_n 0, 1) := by decide +kernel
theorem dX4_init_126 : decode cX4_init 126 = .ok (.getfield 21, 3) := by decide +kernel
theorem dX4_init_129 : decode cX4_init 129 = .ok (.iload_n 1, 1) := by decide +kernel
theorem dX4_init_130 : decode cX4_init 130 = .ok (.new 9, 3) := by decide +kernel
theorem dX4_init_133 : decode cX4_init 133 = .ok (.dup, 1) := by decide +kernel
theorem dX4_init_134 : decode cX4_init 134 = .ok (.iconst 0, 1) := by decide +kernel
theorem dX4_init_135 : decode cX4_init 135 = .ok (.invokespecial 54, 3) := by decide +kernel
theorem dX4_init_138 : decode cX4_init 138 = .ok (.aastore, 1) := by decide +kernel
theorem dX4_init_139 : decode cX4_init 139 = .ok (.iinc 1 1, 3) := by decide +kernel
theorem dX4_init_142 : decode cX4_init 142 = .ok (.goto (-22), 3) := by decide +kernel
theorem dX4_init_145 : decode cX4_init 145 = .ok (.iconst 0, 1) := by decide +kernel
theorem dX4_init_146 : decode cX4_init 146 = .ok (.istore_n 1, 1) := by decide +kernel
theorem dX4_init_147 : decode cX4_init 147 = .ok (.iload_n 1, 1) := by decide +kernel
theorem dX4_init_148 : decode cX4_init 148 = .ok (.bipush 6, 2) := by decide +kernel
theorem dX4_init_150 : decode cX4_init 150 = .ok (.if_icmp .ge 22, 3) := by decide +kernel
theorem dX4_init_153 : decode cX4_init 153 = .ok (.aload_n 0, 1) := by decide +kernel
theorem dX4_init_154 : decode cX4_init 154 = .ok (.getfield 26, 3) := by decide +kernel
theorem dX4_init_157 : decode cX4_init 157 = .ok (.iload_n 1, 1) := by decide +kernel
theorem dX4_init_158 : decode cX4_init 158 = .ok (.new 24, 3) := by decide +kernel
theorem dX4_init_161 : decode cX4_init 161 = .ok (.dup, 1) := by decide +kernel
theorem dX4_init_162 : decode cX4_init 162 = .ok (.invokespecial 43, 3) := by decide +kernel
theorem dX4_init_165 : decode cX4_init 165 = .ok (.aastore, 1) := by decide +kernel
theorem dX4_init_166 : decode cX4_init 166 = .ok (.iinc 1 1, 3) := by decide +kernel
theorem dX4_init_169 : decode cX4_init 169 = .ok (.goto (-22), 3) := by decide +kernel
theorem dX4_init_172 : decode cX4_init 172 = .ok (.iconst 0, 1) := by decide +kernel
theorem dX4_init_173 : decode cX4_init 173 = .ok (.istore_n 1, 1) := by decide +kernel
theorem dX4_init_174 : decode cX4_init 174 = .ok (.iload_n 1, 1) := by decide +kernel
theorem dX4_init_175 : decode cX4_init 175 = .ok (.bipush 12, 2) := by decide +kernel
theorem dX4_init_177 : decode cX4_init 177 = .ok (.if_icmp .ge 22, 3) := by decide +kernel
theorem dX4_init_180 : decode cX4_init 180 = .ok (.aload_n 0, 1) := by decide +kernel
theorem dX4_init_181 : decode cX4_init 181 = .ok (.getfield 37, 3) := by decide +kernel
theorem dX4_init_184 : decode cX4_init 184 = .ok (.iload_n 1, 1) := by decide +kernel
theorem dX4_init_185 : decode cX4_init 185 = .ok (.new 24, 3) := by decide +kernel
theorem dX4_init_188 : decode cX4_init 188 = .ok (.dup, 1) := by decide +kernel
theorem dX4_init_189 : decode cX4_init 189 = .ok (.invokespecial 43, 3) := by decide +kernel
theorem dX4_init_192 : decode cX4_init 192 = .ok (.aastore, 1) := by decide +kernel
theorem dX4_init_193 : decode cX4_init 193 = .ok (.iinc 1 1, 3) := by decide +kernel
theorem dX4_init_196 : decode cX4_init 196 = .ok (.goto (-22), 3) := by decide +kernel
theorem dX4_init_199 : decode cX4_init 199 = .ok (.return_, 1) := by decide +kernel
theorem dX4_copyFrom_0 : decode cX4_copyFrom 0 = .ok (.iconst 0, 1) := by decide +kernel
theorem dX4_copyFrom_1 : decode cX4_copyFrom 1 = .ok (.istore_n 2, 1) := by decide +kernel
theorem dX4_copyFrom_2 : decode cX4_copyFrom 2 = .ok (.iload_n 2, 1) := by decide +kernel
theorem dX4_copyFrom_3 : decode cX4_copyFrom 3 = .ok (.iconst 3, 1) := by decide +kernel
theorem dX4_copyFrom_4 : decode cX4_copyFrom 4 = .ok (.if_icmp .ge 36, 3) := by decide +kernel
theorem dX4_copyFrom_7 : decode cX4_copyFrom 7 = .ok (.aload_n 0, 1) := by decide +kernel
theorem dX4_copyFrom_8 : decode cX4_copyFrom 8 = .ok (.getfield 11, 3) := by decide +kernel
theorem dX4_copyFrom_11 : decode cX4_copyFrom 11 = .ok (.iload_n 2, 1) := by decide +kernel
theorem dX4_copyFrom_12 : decode cX4_copyFrom 12 = .ok (.aaload, 1) := by decide +kernel
theorem dX4_copyFrom_13 : decode cX4_copyFrom 13 = .ok (.aload_n 1, 1) := by decide +kernel
theorem dX4_copyFrom_14 : decode cX4_copyFrom 14 = .ok (.getfield 11, 3) := by decide +kernel
theorem dX4_copyFrom_17 : decode cX4_copyFrom 17 = .ok (.iload_n 2, 1) := by decide +kernel
theorem dX4_copyFrom_18 : decode cX4_copyFrom 18 = .ok (.aaload, 1) := by decide +kernel
theorem dX4_copyFrom_19 : decode cX4_copyFrom 19 = .ok (.invokevirtual 57, 3) := by decide +kernel
theorem dX4_copyFrom_22 : decode cX4_copyFrom 22 = .ok (.aload_n 0, 1) := by decide +kernel
theorem dX4_copyFrom_23 : decode cX4_copyFrom 23 = .ok (.getfield 17, 3) := by decide +kernel
theorem dX4_copyFrom_26 : decode cX4_copyFrom 26 = .ok (.iload_n 2, 1) := by decide +kernel
theorem dX4_copyFrom_27 : decode cX4_copyFrom 27 = .ok (.aload_n 1, 1) := by decide +kernel
theorem dX4_copyFrom_28 : decode cX4_copyFrom 28 = .ok (.getfield 17, 3) := by decide +kernel
theorem dX4_copyFrom_31 : decode cX4_copyFrom 31 = .ok (.iload_n 2, 1) := by decide +kernel
theorem dX4_copyFrom_32 : decode cX4_copyFrom 32 = .ok (.iaload, 1) := by decide +kernel
theorem dX4_copyFrom_33 : decode cX4_copyFrom 33 = .ok (.iastore, 1) := by decide +kernel
theorem dX4_copyFrom_34 : decode cX4_copyFrom 34 = .ok (.iinc 2 1, 3) := by decide +kernel
theorem dX4_copyFrom_37 : decode cX4_copyFrom 37 = .ok (.goto (-35), 3) := by decide +kernel
theorem dX4_copyFrom_40 : decode cX4_copyFrom 40 = .ok (.iconst 0, 1) := by decide +kernel
theorem dX4_copyFrom_41 : decode cX4_copyFrom 41 = .ok (.istore_n 2, 1) := by decide +kernel
theorem dX4_copyFrom_42 : decode cX4_copyFrom 42 = .ok (.iload_n 2, 1) := by decide +kernel
theorem dX4_copyFrom_43 : decode cX4_copyFrom 43 = .ok (.iconst 3, 1) := by decide +kernel
theorem dX4_copyFrom_44 : decode cX4_copyFrom 44 = .ok (.if_icmp .ge 24, 3) := by decide +kernel
theorem dX4_copyFrom_47 : decode cX4_copyFrom 47 = .ok (.aload_n 0, 1) := by decide +kernel
theorem dX4_copyFrom_48 : decode cX4_copyFrom 48 = .ok (.getfield 21, 3) := by decide +kernel
theorem dX4_copyFrom_51 : decode cX4_copyFrom 51 = .ok (.iload_n 2, 1) := by decide +kernel
theorem dX4_copyFrom_52 : decode cX4_copyFrom 52 = .ok (.aaload, 1) := by decide +kernel
theorem dX4_copyFrom_53 : decode cX4_copyFrom 53 = .ok (.aload_n 1, 1) := by decide +kernel
theorem dX4_copyFrom_54 : decode cX4_copyFrom 54 = .ok (.getfield 21, 3) := by decide +kernel
theorem dX4_copyFrom_57 : decode cX4_copyFrom 57 = .ok (.iload_n 2, 1) := by decide +kernel
theorem dX4_copyFrom_58 : decode cX4_copyFrom 58 = .ok (.aaload, 1) := by decide +kernel
theorem dX4_copyFrom_59 : decode cX4_copyFrom 59 = .ok (.invokevirtual 57, 3) := by decide +kernel
theorem dX4_copyFrom_62 : decode cX4_copyFrom 62 = .ok (.iinc 2 1, 3) := by decide +kernel
theorem dX4_copyFrom_65 : decode cX4_copyFrom 65 = .ok (.goto (-23), 3) := by decide +kernel
theorem dX4_copyFrom_68 : decode cX4_copyFrom 68 = .ok (.iconst 0, 1) := by decide +kernel
theorem dX4_copyFrom_69 : decode cX4_copyFrom 69 = .ok (.istore_n 2, 1) := by decide +kernel
theorem dX4_copyFrom_70 : decode cX4_copyFrom 70 = .ok (.iload_n 2, 1) := by decide +kernel
theorem dX4_copyFrom_71 : decode cX4_copyFrom 71 = .ok (.bipush 6, 2) := by decide +kernel
theorem dX4_copyFrom_73 : decode cX4_copyFrom 73 = .ok (.if_icmp .ge 36, 3) := by decide +kernel
theorem dX4_copyFrom_76 : decode cX4_copyFrom 76 = .ok (.aload_n 0, 1) := by decide +kernel
theorem dX4_copyFrom_77 : decode cX4_copyFrom 77 = .ok (.getfield 26, 3) := by decide +kernel
theorem dX4_copyFrom_80 : decode cX4_copyFrom 80 = .ok (.iload_n 2, 1) := by decide +kernel
theorem dX4_copyFrom_81 : decode cX4_copyFrom 81 = .ok (.aaload, 1) := by decide +kernel
theorem dX4_copyFrom_82 : decode cX4_copyFrom 82 = .ok (.aload_n 1, 1) := by decide +kernel
theorem dX4_copyFrom_83 : decode cX4_copyFrom 83 = .ok (.getfield 26, 3) := by decide +kernel
theorem dX4_copyFrom_86 : decode cX4_copyFrom 86 = .ok (.iload_n 2, 1) := by decide +kernel
theorem dX4_copyFrom_87 : decode cX4_copyFrom 87 = .ok (.aaload, 1) := by decide +kernel
theorem dX4_copyFrom_88 : decode cX4_copyFrom 88 = .ok (.invokevirtual 61, 3) := by decide +kernel
theorem dX4_copyFrom_91 : decode cX4_copyFrom 91 = .ok (.aload_n 0, 1) := by decide +kernel
theorem dX4_copyFrom_92 : decode cX4_copyFrom 92 = .ok (.getfield 30, 3) := by decide +kernel
theorem dX4_copyFrom_95 : decode cX4_copyFrom 95 = .ok (.iload_n 2, 1) := by decide +kernel
theorem dX4_copyFrom_96 : decode cX4_copyFrom 96 = .ok (.aload_n 1, 1) := by decide +kernel
theorem dX4_copyFrom_97 : decode cX4_copyFrom 97 = .ok (.getfield 30, 3) := by decide +kernel
theorem dX4_copyFrom_100 : decode cX4_copyFrom 100 = .ok (.iload_n 2, 1) := by decide +kernel
theorem dX4_copyFrom_101 : decode cX4_copyFrom 101 = .ok (.iaload, 1) := by decide +kernel
theorem dX4_copyFrom_102 : decode cX4_copyFrom 102 = .ok (.iastore, 1) := by decide +kernel
theorem dX4_copyFrom_103 : decode cX4_copyFrom 103 = .ok (.iinc 2 1, 3) := by decide +kernel
theorem dX4_copyFrom_106 : decode cX4_copyFrom 106 = .ok (.goto (-36), 3) := by decide +kernel
theorem dX4_copyFrom_109 : decode cX4_copyFrom 109 = .ok (.aload_n 0, 1) := by decide +kernel
theorem dX4_copyFrom_110 : decode cX4_copyFrom 110 = .ok (.aload_n 1, 1) := by decide +kernel
theorem dX4_copyFrom_111 : decode cX4_copyFrom 111 = .ok (.getfield 33, 3) := by decide +kernel
theorem dX4_copyFrom_114 : decode cX4_copyFrom 114 = .ok (.putfield 33, 3) := by decide +kernel
theorem dX4_copyFrom_117 : decode cX4_copyFrom 117 = .ok (.iconst 0, 1) := by decide +kernel
theorem dX4_copyFrom_118 : decode cX4_copyFrom 118 = .ok (.istore_n 2, 1) := by decide +kernel
theorem dX4_copyFrom_119 : decode cX4_copyFrom 119 = .ok (.iload_n 2, 1) := by decide +kernel
theorem dX4_copyFrom_120 : decode cX4_copyFrom 120 = .ok (.bipush 12, 2) := by decide +kernel
theorem dX4_copyFrom_122 : decode cX4_copyFrom 122 = .ok (.if_icmp .ge 24, 3) := by decide +kernel
theorem dX4_copyFrom_125 : decode cX4_copyFrom 125 = .ok (.aload_n 0, 1) := by decide +kernel
theorem dX4_copyFrom_126 : decode cX4_copyFrom 126 = .ok (.getfield 37, 3) := by decide +kernel
theorem dX4_copyFrom_129 : decode cX4_copyFrom 129 = .ok (.iload_n 2, 1) := by decide +kernel
theorem dX4_copyFrom_130 : decode cX4_copyFrom 130 = .ok (.aaload, 1) := by decide +kernel
theorem dX4_copyFrom_131 : decode cX4_copyFrom 131 = .ok (.aload_n 1, 1) := by decide +kernel
theorem dX4_copyFrom_132 : decode cX4_copyFrom 132 = .ok (.getfield 37, 3) := by decide +kernel
theorem dX4_copyFrom_135 : decode cX4_copyFrom 135 = .ok (.iload_n 2, 1) := by decide +kernel
theorem dX4_copyFrom_136 : decode cX4_copyFrom 136 = .ok (.aaload, 1) := by decide +kernel
theorem dX4_copyFrom_137 : decode cX4_copyFrom 137 = .ok (.invokevirtual 61, 3) := by decide +kernel
theorem dX4_copyFrom_140 : decode cX4_copyFrom 140 = .ok (.iinc 2 1, 3) := by decide +kernel
theorem dX4_copyFrom_143 : decode cX4_copyFrom 143 = .ok (.goto (-24), 3) := by decide +kernel
theorem dX4_copyFrom_146 : decode cX4_copyFrom 146 = .ok (.aload_n 0, 1) := by decide +kernel
theorem dX4_copyFrom_147 : decode cX4_copyFrom 147 = .ok (.aload_n 1, 1) := by decide +kernel
theorem dX4_copyFrom_148 : decode cX4_copyFrom 148 = .ok (.getfield 40, 3) := by decide +kernel
theorem dX4_copyFrom_151 : decode cX4_copyFrom 151 = .ok (.putfield 40, 3) := by decide +kernel
theorem dX4_copyFrom_154 : decode cX4_copyFrom 154 = .ok (.aload_n 0, 1) := by decide +kernel
theorem dX4_copyFrom_155 : decode cX4_copyFrom 155 = .ok (.getfield 44, 3) := by decide +kernel
theorem dX4_copyFrom_158 : decode cX4_copyFrom 158 = .ok (.aload_n 1, 1) := by decide +kernel
theorem dX4_copyFrom_159 : decode cX4_copyFrom 159 = .ok (.getfield 44, 3) := by decide +kernel
theorem dX4_copyFrom_162 : decode cX4_copyFrom 162 = .ok (.invokevirtual 61, 3) := by decide +kernel
theorem dX4_copyFrom_165 : decode cX4_copyFrom 165 = .ok (.aload_n 0, 1) := by decide +kernel
theorem dX4_copyFrom_166 : decode cX4_copyFrom 166 = .ok (.getfield 48, 3) := by decide +kernel
theorem dX4_copyFrom_169 : decode cX4_copyFrom 169 = .ok (.aload_n 1, 1) := by decide +kernel
theorem dX4_copyFrom_170 : decode cX4_copyFrom 170 = .ok (.getfield 48, 3) := by decide +kernel
theorem dX4_copyFrom_173 : decode cX4_copyFrom 173 = .ok (.invokevirtual 61, 3) := by decide +kernel
theorem dX4_copyFrom_176 : decode cX4_copyFrom 176 = .ok (.aload_n 0, 1) := by decide +kernel
theorem dX4_copyFrom_177 : decode cX4_copyFrom 177 = .ok (.aload_n 1, 1) := by decide +kernel
theorem dX4_copyFrom_178 : decode cX4_copyFrom 178 = .ok (.getfield 51, 3) := by decide +kernel
theorem dX4_copyFrom_181 : decode cX4_copyFrom 181 = .ok (.putfield 51, 3) := by decide +kernel
theorem dX4_copyFrom_184 : decode cX4_copyFrom 184 = .ok (.return_, 1) := by decide +kernel
theorem dX4_perform_0 : decode cX4_perform 0 = .ok (.aload_n 1, 1) := by decide +kernel
theorem dX4_perform_1 : decode cX4_perform 1 = .ok (.ifnonnull 6, 3) := by decide +kernel
theorem dX4_perform_4 : decode cX4_perform 4 = .ok (.bipush (-2), 2) := by decide +kernel
theorem dX4_perform_6 : decode cX4_perform 6 = .ok (.ireturn, 1) := by decide +kernel
theorem dX4_perform_7 : decode cX4_perform 7 = .ok (.getstatic 64, 3) := by decide +kernel
theorem dX4_perform_10 : decode cX4_perform 10 = .ok (.aload_n 1, 1) := by decide +kernel
theorem dX4_perform_11 : decode cX4_perform 11 = .ok (.invokevirtual 69, 3) := by decide +kernel
theorem dX4_perform_14 : decode cX4_perform 14 = .ok (.iaload, 1) := by decide +kernel
theorem dX4_perform_15 : decode cX4_perform 15 = .ok (.tableswitch 123 1 10 #[53, 62, 69, 75, 84, 91, 97, 104, 110, 117], 53) := by decide +kernel
theorem dX4_perform_68 : decode cX4_perform 68 = .ok (.aload_n 0, 1) := by decide +kernel
theorem dX4_perform_69 : decode cX4_perform 69 = .ok (.iload_n 2, 1) := by decide +kernel
theorem dX4_perform_70 : decode cX4_perform 70 = .ok (.iload_n 3, 1) := by decide +kernel
theorem dX4_perform_71 : decode cX4_perform 71 = .ok (.iload 4, 2) := by decide +kernel
theorem dX4_perform_73 : decode cX4_perform 73 = .ok (.invokevirtual 75, 3) := by decide +kernel
theorem dX4_perform_76 : decode cX4_perform 76 = .ok (.ireturn, 1) := by decide +kernel
theorem dX4_perform_77 : decode cX4_perform 77 = .ok (.aload_n 0, 1) := by decide +kernel
theorem dX4_perform_78 : decode cX4_perform 78 = .ok (.iload_n 2, 1) := by decide +kernel
theorem dX4_perform_79 : decode cX4_perform 79 = .ok (.iload_n 3, 1) := by decide +kernel
theorem dX4_perform_80 : decode cX4_perform 80 = .ok (.invokevirtual 79, 3) := by decide +kernel
theorem dX4_perform_83 : decode cX4_perform 83 = .ok (.ireturn, 1) := by decide +kernel
theorem dX4_perform_84 : decode cX4_perform 84 = .ok (.aload_n 0, 1) := by decide +kernel
theorem dX4_perform_85 : decode cX4_perform 85 = .ok (.iload_n 2, 1) := by decide +kernel
theorem dX4_perform_86 : decode cX4_perform 86 = .ok (.invokevirtual 83, 3) := by decide +kernel
theorem dX4_perform_89 : decode cX4_perform 89 = .ok (.ireturn, 1) := by decide +kernel
theorem dX4_perform_90 : decode cX4_perform 90 = .ok (.aload_n 0, 1) := by decide +kernel
theorem dX4_perform_91 : decode cX4_perform 91 = .ok (.iload_n 2, 1) := by decide +kernel
theorem dX4_perform_92 : decode cX4_perform 92 = .ok (.iload_n 3, 1) := by decide +kernel
theorem dX4_perform_93 : decode cX4_perform 93 = .ok (.iload 4, 2) := by decide +kernel
theorem dX4_perform_95 : decode cX4_perform 95 = .ok (.invokevirtual 87, 3) := by decide +kernel
theorem dX4_perform_98 : decode cX4_perform 98 = .ok (.ireturn, 1) := by decide +kernel
theorem dX4_perform_99 : decode cX4_perform 99 = .ok (.aload_n 0, 1) := by decide +kernel
theorem dX4_perform_100 : decode cX4_perform 100 = .ok (.iload_n 2, 1) := by decide +kernel
theorem dX4_perform_101 : decode cX4_perform 101 = .ok (.iload_n 3, 1) := by decide +kernel
theorem dX4_perform_102 : decode cX4_perform 102 = .ok (.invokevirtual 90, 3) := by decide +kernel
theorem dX4_perform_105 : decode cX4_perform 105 = .ok (.ireturn, 1) := by decide +kernel
theorem dX4_perform_106 : decode cX4_perform 106 = .ok (.aload_n 0, 1) := by decide +kernel
theorem dX4_perform_107 : decode cX4_perform 107 = .ok (.iload_n 2, 1) := by decide +kernel
theorem dX4_perform_108 : decode cX4_perform 108 = .ok (.invokevirtual 93, 3) := by decide +kernel
theorem dX4_perform_111 : decode cX4_perform 111 = .ok (.ireturn, 1) := by decide +kernel
theorem dX4_perform_112 : decode cX4_perform 112 = .ok (.aload_n 0, 1) := by decide +kernel
theorem dX4_perform_113 : decode cX4_perform 113 = .ok (.iload_n 2, 1) := by decide +kernel
theorem dX4_perform_114 : decode cX4_perform 114 = .ok (.iload_n 3, 1) := by decide +kernel
theorem dX4_perform_115 : decode cX4_perform 115 = .ok (.invokevirtual 96, 3) := by decide +kernel
theorem dX4_perform_118 : decode cX4_perform 118 = .ok (.ireturn, 1) := by decide +kernel
theorem dX4_perform_119 : decode cX4_perform 119 = .ok (.aload_n 0, 1) := by decide +kernel
theorem dX4_perform_120 : decode cX4_perform 120 = .ok (.iload_n 2, 1) := by decide +kernel
theorem dX4_perform_121 : decode cX4_perform 121 = .ok (.invokevirtual 99, 3) := by decide +kernel
theorem dX4_perform_124 : decode cX4_perform 124 = .ok (.ireturn, 1) := by decide +kernel
theorem dX4_perform_125 : decode cX4_perform 125 = .ok (.aload_n 0, 1) := by decide +kernel
theorem dX4_perform_126 : decode cX4_perform 126 = .ok (.iload_n 2, 1) := by decide +kernel
theorem dX4_perform_127 : decode cX4_perform 127 = .ok (.iload_n 3, 1) := by decide +kernel
theorem dX4_perform_128 : decode cX4_perform 128 = .ok (.invokevirtual 102, 3) := by decide +kernel
theorem dX4_perform_131 : decode cX4_perform 131 = .ok (.ireturn, 1) := by decide +kernel
theorem dX4_perform_132 : decode cX4_perform 132 = .ok (.aload_n 0, 1) := by decide +kernel
theorem dX4_perform_133 : decode cX4_perform 133 = .ok (.iload_n 2, 1) := by decide +kernel
theorem dX4_perform_134 : decode cX4_perform 134 = .ok (.invokevirtual 105, 3) := by decide +kernel
theorem dX4_perform_137 : decode cX4_perform 137 = .ok (.ireturn, 1) := by decide +kernel
theorem dX4_perform_138 : decode cX4_perform 138 = .ok (.bipush (-2), 2) := by decide +kernel
theorem dX4_perform_140 : decode cX4_perform 140 = .ok (.ireturn, 1) := by decide +kernel
theorem dX4_addSolid_0 : decode cX4_addSolid 0 = .ok (.iload_n 1, 1) := by decide +kernel
theorem dX4_addSolid_1 : decode cX4_addSolid 1 = .ok (.iconst 3, 1) := by decide +kernel
theorem dX4_addSolid_2 : decode cX4_addSolid 2 = .ok (.invokestatic 108, 3) := by decide +kernel
theorem dX4_addSolid_5 : decode cX4_addSolid 5 = .ok (.ifCond .eq 5, 3) := by decide +kernel
theorem dX4_addSolid_8 : decode cX4_addSolid 8 = .ok (.iconst (-1), 1) := by decide +kernel
theorem dX4_addSolid_9 : decode cX4_addSolid 9 = .ok (.ireturn, 1) := by decide +kernel
theorem dX4_addSolid_10 : decode cX4_addSolid 10 = .ok (.iload_n 2, 1) := by decide +kernel
theorem dX4_addSolid_11 : decode cX4_addSolid 11 = .ok (.invokestatic 112, 3) := by decide +kernel
theorem dX4_addSolid_14 : decode cX4_addSolid 14 = .ok (.istore 4, 2) := by decide +kernel
theorem dX4_addSolid_16 : decode cX4_addSolid 16 = .ok (.iload 4, 2) := by decide +kernel
theorem dX4_addSolid_18 : decode cX4_addSolid 18 = .ok (.iconst (-1), 1) := by decide +kernel
theorem dX4_addSolid_19 : decode cX4_addSolid 19 = .ok (.if_icmp .eq 14, 3) := by decide +kernel
theorem dX4_addSolid_22 : decode cX4_addSolid 22 = .ok (.iload_n 3, 1) := by decide +kernel
theorem dX4_addSolid_23 : decode cX4_addSolid 23 = .ok (.iconst 1, 1) := by decide +kernel
theorem dX4_addSolid_24 : decode cX4_addSolid 24 = .ok (.if_icmp .lt 9, 3) := by decide +kernel
theorem dX4_addSolid_27 : decode cX4_addSolid 27 = .ok (.iload_n 3, 1) := by decide +kernel
theorem dX4_addSolid_28 : decode cX4_addSolid 28 = .ok (.bipush 50, 2) := by decide +kernel
theorem dX4_addSolid_30 : decode cX4_addSolid 30 = .ok (.if_icmp .le 6, 3) := by decide +kernel
theorem dX4_addSolid_33 : decode cX4_addSolid 33 = .ok (.bipush (-2), 2) := by decide +kernel
theorem dX4_addSolid_35 : decode cX4_addSolid 35 = .ok (.ireturn, 1) := by decide +kernel
theorem dX4_addSolid_36 : decode cX4_addSolid 36 = .ok (.aload_n 0, 1) := by decide +kernel
theorem dX4_addSolid_37 : decode cX4_addSolid 37 = .ok (.getfield 11, 3) := by decide +kernel
theorem dX4_addSolid_40 : decode cX4_addSolid 40 = .ok (.iload_n 1, 1) := by decide +kernel
theorem dX4_addSolid_41 : decode cX4_addSolid 41 = .ok (.aaload, 1) := by decide +kernel
theorem dX4_addSolid_42 : decode cX4_addSolid 42 = .ok (.astore 5, 2) := by decide +kernel
theorem dX4_addSolid_44 : decode cX4_addSolid 44 = .ok (.aload 5, 2) := by decide +kernel
theorem dX4_addSolid_46 : decode cX4_addSolid 46 = .ok (.getfield 115, 3) := by decide +kernel
theorem dX4_addSolid_49 : decode cX4_addSolid 49 = .ok (.invokevirtual 118, 3) := by decide +kernel
theorem dX4_addSolid_52 : decode cX4_addSolid 52 = .ok (.iload_n 3, 1) := by decide +kernel
theorem dX4_addSolid_53 : decode cX4_addSolid 53 = .ok (.iadd, 1) := by decide +kernel
theorem dX4_addSolid_54 : decode cX4_addSolid 54 = .ok (.bipush 100, 2) := by decide +kernel
theorem dX4_addSolid_56 : decode cX4_addSolid 56 = .ok (.if_icmp .le 6, 3) := by decide +kernel
theorem dX4_addSolid_59 : decode cX4_addSolid 59 = .ok (.bipush (-5), 2) := by decide +kernel
theorem dX4_addSolid_61 : decode cX4_addSolid 61 = .ok (.ireturn, 1) := by decide +kernel
theorem dX4_addSolid_62 : decode cX4_addSolid 62 = .ok (.aload 5, 2) := by decide +kernel
theorem dX4_addSolid_64 : decode cX4_addSolid 64 = .ok (.iload_n 3, 1) := by decide +kernel
theorem dX4_addSolid_65 : decode cX4_addSolid 65 = .ok (.bipush 20, 2) := by decide +kernel
theorem dX4_addSolid_67 : decode cX4_addSolid 67 = .ok (.invokevirtual 121, 3) := by decide +kernel
theorem dX4_addSolid_70 : decode cX4_addSolid 70 = .ok (.aload 5, 2) := by decide +kernel
theorem dX4_addSolid_72 : decode cX4_addSolid 72 = .ok (.getfield 115, 3) := by decide +kernel
theorem dX4_addSolid_75 : decode cX4_addSolid 75 = .ok (.getfield 125, 3) := by decide +kernel
theorem dX4_addSolid_78 : decode cX4_addSolid 78 = .ok (.iload 4, 2) := by decide +kernel
theorem dX4_addSolid_80 : decode cX4_addSolid 80 = .ok (.dup2, 1) := by decide +kernel
theorem dX4_addSolid_81 : decode cX4_addSolid 81 = .ok (.iaload, 1) := by decide +kernel
theorem dX4_addSolid_82 : decode cX4_addSolid 82 = .ok (.iload_n 3, 1) := by decide +kernel
theorem dX4_addSolid_83 : decode cX4_addSolid 83 = .ok (.iadd, 1) := by decide +kernel
theorem dX4_addSolid_84 : decode cX4_addSolid 84 = .ok (.iastore, 1) := by decide +kernel
theorem dX4_addSolid_85 : decode cX4_addSolid 85 = .ok (.aload_n 0, 1) := by decide +kernel
theorem dX4_addSolid_86 : decode cX4_addSolid 86 = .ok (.getfield 44, 3) := by decide +kernel
theorem dX4_addSolid_89 : decode cX4_addSolid 89 = .ok (.getfield 125, 3) := by decide +kernel
theorem dX4_addSolid_92 : decode cX4_addSolid 92 = .ok (.iload 4, 2) := by decide +kernel
theorem dX4_addSolid_94 : decode cX4_addSolid 94 = .ok (.dup2, 1) := by decide +kernel
theorem dX4_addSolid_95 : decode cX4_addSolid 95 = .ok (.iaload, 1) := by decide +kernel
theorem dX4_addSolid_96 : decode cX4_addSolid 96 = .ok (.iload_n 3, 1) := by decide +kernel
theorem dX4_addSolid_97 : decode cX4_addSolid 97 = .ok (.iadd, 1) := by decide +kernel
theorem dX4_addSolid_98 : decode cX4_addSolid 98 = .ok (.iastore, 1) := by decide +kernel
theorem dX4_addSolid_99 : decode cX4_addSolid 99 = .ok (.aload 5, 2) := by decide +kernel
theorem dX4_addSolid_101 : decode cX4_addSolid 101 = .ok (.getfield 128, 3) := by decide +kernel
theorem dX4_addSolid_104 : decode cX4_addSolid 104 = .ok (.ireturn, 1) := by decide +kernel
theorem dX4_stoke_0 : decode cX4_stoke 0 = .ok (.iload_n 1, 1) := by decide +kernel
theorem dX4_stoke_1 : decode cX4_stoke 1 = .ok (.iconst 3, 1) := by decide +kernel
theorem dX4_stoke_2 : decode cX4_stoke 2 = .ok (.invokestatic 108, 3) := by decide +kernel
theorem dX4_stoke_5 : decode cX4_stoke 5 = .ok (.ifCond .eq 5, 3) := by decide +kernel
theorem dX4_stoke_8 : decode cX4_stoke 8 = .ok (.iconst (-1), 1) := by decide +kernel
theorem dX4_stoke_9 : decode cX4_stoke 9 = .ok (.ireturn, 1) := by decide +kernel
theorem dX4_stoke_10 : decode cX4_stoke 10 = .ok (.iload_n 2, 1) := by decide +kernel
theorem dX4_stoke_11 : decode cX4_stoke 11 = .ok (.ifCond .lt 8, 3) := by decide +kernel
theorem dX4_stoke_14 : decode cX4_stoke 14 = .ok (.iload_n 2, 1) := by decide +kernel
theorem dX4_stoke_15 : decode cX4_stoke 15 = .ok (.iconst 5, 1) := by decide +kernel
theorem dX4_stoke_16 : decode cX4_stoke 16 = .ok (.if_icmp .le 6, 3) := by decide +kernel
theorem dX4_stoke_19 : decode cX4_stoke 19 = .ok (.bipush (-2), 2) := by decide +kernel
theorem dX4_stoke_21 : decode cX4_stoke 21 = .ok (.ireturn, 1) := by decide +kernel
theorem dX4_stoke_22 : decode cX4_stoke 22 = .ok (.aload_n 0, 1) := by decide +kernel
theorem dX4_stoke_23 : decode cX4_stoke 23 = .ok (.getfield 17, 3) := by decide +kernel
theorem dX4_stoke_26 : decode cX4_stoke 26 = .ok (.iload_n 1, 1) := by decide +kernel
theorem dX4_stoke_27 : decode cX4_stoke 27 = .ok (.iaload, 1) := by decide +kernel
theorem dX4_stoke_28 : decode cX4_stoke 28 = .ok (.istore_n 3, 1) := by decide +kernel
theorem dX4_stoke_29 : decode cX4_stoke 29 = .ok (.aload_n 0, 1) := by decide +kernel
theorem dX4_stoke_30 : decode cX4_stoke 30 = .ok (.getfield 17, 3) := by decide +kernel
theorem dX4_stoke_33 : decode cX4_stoke 33 = .ok (.iload_n 1, 1) := by decide +kernel
theorem dX4_stoke_34 : decode cX4_stoke 34 = .ok (.iload_n 2, 1) := by decide +kernel
theorem dX4_stoke_35 : decode cX4_stoke 35 = .ok (.iastore, 1) := by decide +kernel
theorem dX4_stoke_36 : decode cX4_stoke 36 = .ok (.iload_n 3, 1) := by decide +kernel
theorem dX4_stoke_37 : decode cX4_stoke 37 = .ok (.ireturn, 1) := by decide +kernel
theorem dX4_skimOff_0 : decode cX4_skimOff 0 = .ok (.iload_n 1, 1) := by decide +kernel
theorem dX4_skimOff_1 : decode cX4_skimOff 1 = .ok (.iconst 3, 1) := by decide +kernel
theorem dX4_skimOff_2 : decode cX4_skimOff 2 = .ok (.invokestatic 108, 3) := by decide +kernel
theorem dX4_skimOff_5 : decode cX4_skimOff 5 = .ok (.ifCond .eq 5, 3) := by decide +kernel
theorem dX4_skimOff_8 : decode cX4_skimOff 8 = .ok (.iconst (-1), 1) := by decide +kernel
theorem dX4_skimOff_9 : decode cX4_skimOff 9 = .ok (.ireturn, 1) := by decide +kernel
theorem dX4_skimOff_10 : decode cX4_skimOff 10 = .ok (.aload_n 0, 1) := by decide +kernel
theorem dX4_skimOff_11 : decode cX4_skimOff 11 = .ok (.getfield 11, 3) := by decide +kernel
theorem dX4_skimOff_14 : decode cX4_skimOff 14 = .ok (.iload_n 1, 1) := by decide +kernel
theorem dX4_skimOff_15 : decode cX4_skimOff 15 = .ok (.aaload, 1) := by decide +kernel
theorem dX4_skimOff_16 : decode cX4_skimOff 16 = .ok (.astore_n 2, 1) := by decide +kernel
theorem dX4_skimOff_17 : decode cX4_skimOff 17 = .ok (.aload_n 2, 1) := by decide +kernel
theorem dX4_skimOff_18 : decode cX4_skimOff 18 = .ok (.getfield 115, 3) := by decide +kernel
theorem dX4_skimOff_21 : decode cX4_skimOff 21 = .ok (.astore_n 3, 1) := by decide +kernel
theorem dX4_skimOff_22 : decode cX4_skimOff 22 = .ok (.aload_n 3, 1) := by decide +kernel
theorem dX4_skimOff_23 : decode cX4_skimOff 23 = .ok (.getfield 125, 3) := by decide +kernel
theorem dX4_skimOff_26 : decode cX4_skimOff 26 = .ok (.iconst 3, 1) := by decide +kernel
theorem dX4_skimOff_27 : decode cX4_skimOff 27 = .ok (.iaload, 1) := by decide +kernel
theorem dX4_skimOff_28 : decode cX4_skimOff 28 = .ok (.istore 4, 2) := by decide +kernel
theorem dX4_skimOff_30 : decode cX4_skimOff 30 = .ok (.iload 4, 2) := by decide +kernel
theorem dX4_skimOff_32 : decode cX4_skimOff 32 = .ok (.ifCond .ne 6, 3) := by decide +kernel
theorem dX4_skimOff_35 : decode cX4_skimOff 35 = .ok (.bipush (-3), 2) := by decide +kernel
theorem dX4_skimOff_37 : decode cX4_skimOff 37 = .ok (.ireturn, 1) := by decide +kernel
theorem dX4_skimOff_38 : decode cX4_skimOff 38 = .ok (.aload_n 2, 1) := by decide +kernel
theorem dX4_skimOff_39 : decode cX4_skimOff 39 = .ok (.invokevirtual 131, 3) := by decide +kernel
theorem dX4_skimOff_42 : decode cX4_skimOff 42 = .ok (.ifCond .ne 6, 3) := by decide +kernel
theorem dX4_skimOff_45 : decode cX4_skimOff 45 = .ok (.bipush (-4), 2) := by decide +kernel
theorem dX4_skimOff_47 : decode cX4_skimOff 47 = .ok (.ireturn, 1) := by decide +kernel
theorem dX4_skimOff_48 : decode cX4_skimOff 48 = .ok (.aload_n 3, 1) := by decide +kernel
theorem dX4_skimOff_49 : decode cX4_skimOff 49 = .ok (.iconst 3, 1) := by decide +kernel
theorem dX4_skimOff_50 : decode cX4_skimOff 50 = .ok (.invokevirtual 135, 3) := by decide +kernel
theorem dX4_skimOff_53 : decode cX4_skimOff 53 = .ok (.istore 5, 2) := by decide +kernel
theorem dX4_skimOff_55 : decode cX4_skimOff 55 = .ok (.iload 4, 2) := by decide +kernel
theorem dX4_skimOff_57 : decode cX4_skimOff 57 = .ok (.iconst 4, 1) := by decide +kernel
theorem dX4_skimOff_58 : decode cX4_skimOff 58 = .ok (.idiv, 1) := by decide +kernel
theorem dX4_skimOff_59 : decode cX4_skimOff 59 = .ok (.aload_n 3, 1) := by decide +kernel
theorem dX4_skimOff_60 : decode cX4_skimOff 60 = .ok (.getfield 125, 3) := by decide +kernel
theorem dX4_skimOff_63 : decode cX4_skimOff 63 = .ok (.iload 5, 2) := by decide +kernel
theorem dX4_skimOff_65 : decode cX4_skimOff 65 = .ok (.iaload, 1) := by decide +kernel
theorem dX4_skimOff_66 : decode cX4_skimOff 66 = .ok (.invokestatic 138, 3) := by decide +kernel
theorem dX4_skimOff_69 : decode cX4_skimOff 69 = .ok (.istore 6, 2) := by decide +kernel
theorem dX4_skimOff_71 : decode cX4_skimOff 71 = .ok (.aload_n 3, 1) := by decide +kernel
theorem dX4_skimOff_72 : decode cX4_skimOff 72 = .ok (.iconst 3, 1) := by decide +kernel
theorem dX4_skimOff_73 : decode cX4_skimOff 73 = .ok (.iload 4, 2) := by decide +kernel
theorem dX4_skimOff_75 : decode cX4_skimOff 75 = .ok (.aload_n 0, 1) := by decide +kernel
theorem dX4_skimOff_76 : decode cX4_skimOff 76 = .ok (.getfield 48, 3) := by decide +kernel
theorem dX4_skimOff_79 : decode cX4_skimOff 79 = .ok (.invokevirtual 143, 3) := by decide +kernel
theorem dX4_skimOff_82 : decode cX4_skimOff 82 = .ok (.aload_n 3, 1) := by decide +kernel
theorem dX4_skimOff_83 : decode cX4_skimOff 83 = .ok (.iload 5, 2) := by decide +kernel
theorem dX4_skimOff_85 : decode cX4_skimOff 85 = .ok (.iload 6, 2) := by decide +kernel
theorem dX4_skimOff_87 : decode cX4_skimOff 87 = .ok (.aload_n 0, 1) := by decide +kernel
theorem dX4_skimOff_88 : decode cX4_skimOff 88 = .ok (.getfield 48, 3) := by decide +kernel
theorem dX4_skimOff_91 : decode cX4_skimOff 91 = .ok (.invokevirtual 143, 3) := by decide +kernel
theorem dX4_skimOff_94 : decode cX4_skimOff 94 = .ok (.iload 4, 2) := by decide +kernel
theorem dX4_skimOff_96 : decode cX4_skimOff 96 = .ok (.iload 6, 2) := by decide +kernel
theorem dX4_skimOff_98 : decode cX4_skimOff 98 = .ok (.iadd, 1) := by decide +kernel
theorem dX4_skimOff_99 : decode cX4_skimOff 99 = .ok (.ireturn, 1) := by decide +kernel
theorem dX4_draw_0 : decode cX4_draw 0 = .ok (.iload_n 1, 1) := by decide +kernel
theorem dX4_draw_1 : decode cX4_draw 1 = .ok (.iconst 3, 1) := by decide +kernel
theorem dX4_draw_2 : decode cX4_draw 2 = .ok (.invokestatic 108, 3) := by decide +kernel
theorem dX4_draw_5 : decode cX4_draw 5 = .ok (.ifCond .ne 11, 3) := by decide +kernel
theorem dX4_draw_8 : decode cX4_draw 8 = .ok (.iload_n 2, 1) := by decide +kernel
theorem dX4_draw_9 : decode cX4_draw 9 = .ok (.iconst 3, 1) := by decide +kernel
theorem dX4_draw_10 : decode cX4_draw 10 = .ok (.invokestatic 108, 3) := by decide +kernel
theorem dX4_draw_13 : decode cX4_draw 13 = .ok (.ifCond .eq 5, 3) := by decide +kernel
theorem dX4_draw_16 : decode cX4_draw 16 = .ok (.iconst (-1), 1) := by decide +kernel
theorem dX4_draw_17 : decode cX4_draw 17 = .ok (.ireturn, 1) := by decide +kernel
theorem dX4_draw_18 : decode cX4_draw 18 = .ok (.iload_n 3, 1) := by decide +kernel
theorem dX4_draw_19 : decode cX4_draw 19 = .ok (.iconst 1, 1) := by decide +kernel
theorem dX4_draw_20 : decode cX4_draw 20 = .ok (.if_icmp .lt 9, 3) := by decide +kernel
theorem dX4_draw_23 : decode cX4_draw 23 = .ok (.iload_n 3, 1) := by decide +kernel
theorem dX4_draw_24 : decode cX4_draw 24 = .ok (.bipush 40, 2) := by decide +kernel
theorem dX4_draw_26 : decode cX4_draw 26 = .ok (.if_icmp .le 6, 3) := by decide +kernel
theorem dX4_draw_29 : decode cX4_draw 29 = .ok (.bipush (-2), 2) := by decide +kernel
theorem dX4_draw_31 : decode cX4_draw 31 = .ok (.ireturn, 1) := by decide +kernel
theorem dX4_draw_32 : decode cX4_draw 32 = .ok (.aload_n 0, 1) := by decide +kernel
theorem dX4_draw_33 : decode cX4_draw 33 = .ok (.getfield 11, 3) := by decide +kernel
theorem dX4_draw_36 : decode cX4_draw 36 = .ok (.iload_n 1, 1) := by decide +kernel
theorem dX4_draw_37 : decode cX4_draw 37 = .ok (.aaload, 1) := by decide +kernel
theorem dX4_draw_38 : decode cX4_draw 38 = .ok (.astore 4, 2) := by decide +kernel
theorem dX4_draw_40 : decode cX4_draw 40 = .ok (.aload_n 0, 1) := by decide +kernel
theorem dX4_draw_41 : decode cX4_draw 41 = .ok (.getfield 21, 3) := by decide +kernel
theorem dX4_draw_44 : decode cX4_draw 44 = .ok (.iload_n 2, 1) := by decide +kernel
theorem dX4_draw_45 : decode cX4_draw 45 = .ok (.aaload, 1) := by decide +kernel
theorem dX4_draw_46 : decode cX4_draw 46 = .ok (.astore 5, 2) := by decide +kernel
theorem dX4_draw_48 : decode cX4_draw 48 = .ok (.aload 4, 2) := by decide +kernel
theorem dX4_draw_50 : decode cX4_draw 50 = .ok (.getfield 115, 3) := by decide +kernel
theorem dX4_draw_53 : decode cX4_draw 53 = .ok (.invokevirtual 118, 3) := by decide +kernel
theorem dX4_draw_56 : decode cX4_draw 56 = .ok (.iload_n 3, 1) := by decide +kernel
theorem dX4_draw_57 : decode cX4_draw 57 = .ok (.if_icmp .ge 6, 3) := by decide +kernel
theorem dX4_draw_60 : decode cX4_draw 60 = .ok (.bipush (-3), 2) := by decide +kernel
theorem dX4_draw_62 : decode cX4_draw 62 = .ok (.ireturn, 1) := by decide +kernel
theorem dX4_draw_63 : decode cX4_draw 63 = .ok (.aload 4, 2) := by decide +kernel
theorem dX4_draw_65 : decode cX4_draw 65 = .ok (.invokevirtual 131, 3) := by decide +kernel
theorem dX4_draw_68 : decode cX4_draw 68 = .ok (.ifCond .ne 6, 3) := by decide +kernel
theorem dX4_draw_71 : decode cX4_draw 71 = .ok (.bipush (-4), 2) := by decide +kernel
theorem dX4_draw_73 : decode cX4_draw 73 = .ok (.ireturn, 1) := by decide +kernel
theorem dX4_draw_74 : decode cX4_draw 74 = .ok (.aload 5, 2) := by decide +kernel
theorem dX4_draw_76 : decode cX4_draw 76 = .ok (.getfield 115, 3) := by decide +kernel
theorem dX4_draw_79 : decode cX4_draw 79 = .ok (.invokevirtual 118, 3) := by decide +kernel
theorem dX4_draw_82 : decode cX4_draw 82 = .ok (.iload_n 3, 1) := by decide +kernel
theorem dX4_draw_83 : decode cX4_draw 83 = .ok (.iadd, 1) := by decide +kernel
theorem dX4_draw_84 : decode cX4_draw 84 = .ok (.bipush 40, 2) := by decide +kernel
theorem dX4_draw_86 : decode cX4_draw 86 = .ok (.if_icmp .le 6, 3) := by decide +kernel
theorem dX4_draw_89 : decode cX4_draw 89 = .ok (.bipush (-5), 2) := by decide +kernel
theorem dX4_draw_91 : decode cX4_draw 91 = .ok (.ireturn, 1) := by decide +kernel
theorem dX4_draw_92 : decode cX4_draw 92 = .ok (.aload 5, 2) := by decide +kernel
theorem dX4_draw_94 : decode cX4_draw 94 = .ok (.iload_n 3, 1) := by decide +kernel
theorem dX4_draw_95 : decode cX4_draw 95 = .ok (.aload 4, 2) := by decide +kernel
theorem dX4_draw_97 : decode cX4_draw 97 = .ok (.getfield 128, 3) := by decide +kernel
theorem dX4_draw_100 : decode cX4_draw 100 = .ok (.invokevirtual 121, 3) := by decide +kernel
theorem dX4_draw_103 : decode cX4_draw 103 = .ok (.aload 4, 2) := by decide +kernel
theorem dX4_draw_105 : decode cX4_draw 105 = .ok (.getfield 115, 3) := by decide +kernel
theorem dX4_draw_108 : decode cX4_draw 108 = .ok (.iload_n 3, 1) := by decide +kernel
theorem dX4_draw_109 : decode cX4_draw 109 = .ok (.aload 5, 2) := by decide +kernel
theorem dX4_draw_111 : decode cX4_draw 111 = .ok (.getfield 115, 3) := by decide +kernel
theorem dX4_draw_114 : decode cX4_draw 114 = .ok (.invokevirtual 147, 3) := by decide +kernel
theorem dX4_draw_117 : decode cX4_draw 117 = .ok (.aload 5, 2) := by decide +kernel
theorem dX4_draw_119 : decode cX4_draw 119 = .ok (.getfield 128, 3) := by decide +kernel
theorem dX4_draw_122 : decode cX4_draw 122 = .ok (.ireturn, 1) := by decide +kernel
theorem dX4_giveBack_0 : decode cX4_giveBack 0 = .ok (.iload_n 1, 1) := by decide +kernel
theorem dX4_giveBack_1 : decode cX4_giveBack 1 = .ok (.iconst 3, 1) := by decide +kernel
theorem dX4_giveBack_2 : decode cX4_giveBack 2 = .ok (.invokestatic 108, 3) := by decide +kernel
theorem dX4_giveBack_5 : decode cX4_giveBack 5 = .ok (.ifCond .ne 11, 3) := by decide +kernel
theorem dX4_giveBack_8 : decode cX4_giveBack 8 = .ok (.iload_n 2, 1) := by decide +kernel
theorem dX4_giveBack_9 : decode cX4_giveBack 9 = .ok (.iconst 3, 1) := by decide +kernel
theorem dX4_giveBack_10 : decode cX4_giveBack 10 = .ok (.invokestatic 108, 3) := by decide +kernel
theorem dX4_giveBack_13 : decode cX4_giveBack 13 = .ok (.ifCond .eq 5, 3) := by decide +kernel
theorem dX4_giveBack_16 : decode cX4_giveBack 16 = .ok (.iconst (-1), 1) := by decide +kernel
theorem dX4_giveBack_17 : decode cX4_giveBack 17 = .ok (.ireturn, 1) := by decide +kernel
theorem dX4_giveBack_18 : decode cX4_giveBack 18 = .ok (.aload_n 0, 1) := by decide +kernel
theorem dX4_giveBack_19 : decode cX4_giveBack 19 = .ok (.getfield 21, 3) := by decide +kernel
theorem dX4_giveBack_22 : decode cX4_giveBack 22 = .ok (.iload_n 1, 1) := by decide +kernel
theorem dX4_giveBack_23 : decode cX4_giveBack 23 = .ok (.aaload, 1) := by decide +kernel
theorem dX4_giveBack_24 : decode cX4_giveBack 24 = .ok (.astore_n 3, 1) := by decide +kernel
theorem dX4_giveBack_25 : decode cX4_giveBack 25 = .ok (.aload_n 3, 1) := by decide +kernel
theorem dX4_giveBack_26 : decode cX4_giveBack 26 = .ok (.getfield 115, 3) := by decide +kernel
theorem dX4_giveBack_29 : decode cX4_giveBack 29 = .ok (.invokevirtual 118, 3) := by decide +kernel
theorem dX4_giveBack_32 : decode cX4_giveBack 32 = .ok (.istore 4, 2) := by decide +kernel
theorem dX4_giveBack_34 : decode cX4_giveBack 34 = .ok (.iload 4, 2) := by decide +kernel
theorem dX4_giveBack_36 : decode cX4_giveBack 36 = .ok (.ifCond .ne 6, 3) := by decide +kernel
theorem dX4_giveBack_39 : decode cX4_giveBack 39 = .ok (.bipush (-3), 2) := by decide +kernel
theorem dX4_giveBack_41 : decode cX4_giveBack 41 = .ok (.ireturn, 1) := by decide +kernel
theorem dX4_giveBack_42 : decode cX4_giveBack 42 = .ok (.aload_n 0, 1) := by decide +kernel
theorem dX4_giveBack_43 : decode cX4_giveBack 43 = .ok (.getfield 11, 3) := by decide +kernel
theorem dX4_giveBack_46 : decode cX4_giveBack 46 = .ok (.iload_n 2, 1) := by decide +kernel
theorem dX4_giveBack_47 : decode cX4_giveBack 47 = .ok (.aaload, 1) := by decide +kernel
theorem dX4_giveBack_48 : decode cX4_giveBack 48 = .ok (.astore 5, 2) := by decide +kernel
theorem dX4_giveBack_50 : decode cX4_giveBack 50 = .ok (.aload 5, 2) := by decide +kernel
theorem dX4_giveBack_52 : decode cX4_giveBack 52 = .ok (.getfield 115, 3) := by decide +kernel
theorem dX4_giveBack_55 : decode cX4_giveBack 55 = .ok (.invokevirtual 118, 3) := by decide +kernel
theorem dX4_giveBack_58 : decode cX4_giveBack 58 = .ok (.iload 4, 2) := by decide +kernel
theorem dX4_giveBack_60 : decode cX4_giveBack 60 = .ok (.iadd, 1) := by decide +kernel
theorem dX4_giveBack_61 : decode cX4_giveBack 61 = .ok (.bipush 100, 2) := by decide +kernel
theorem dX4_giveBack_63 : decode cX4_giveBack 63 = .ok (.if_icmp .le 6, 3) := by decide +kernel
theorem dX4_giveBack_66 : decode cX4_giveBack 66 = .ok (.bipush (-5), 2) := by decide +kernel
theorem dX4_giveBack_68 : decode cX4_giveBack 68 = .ok (.ireturn, 1) := by decide +kernel
theorem dX4_giveBack_69 : decode cX4_giveBack 69 = .ok (.aload 5, 2) := by decide +kernel
theorem dX4_giveBack_71 : decode cX4_giveBack 71 = .ok (.iload 4, 2) := by decide +kernel
theorem dX4_giveBack_73 : decode cX4_giveBack 73 = .ok (.aload_n 3, 1) := by decide +kernel
theorem dX4_giveBack_74 : decode cX4_giveBack 74 = .ok (.getfield 128, 3) := by decide +kernel
theorem dX4_giveBack_77 : decode cX4_giveBack 77 = .ok (.invokevirtual 121, 3) := by decide +kernel
theorem dX4_giveBack_80 : decode cX4_giveBack 80 = .ok (.aload 5, 2) := by decide +kernel
theorem dX4_giveBack_82 : decode cX4_giveBack 82 = .ok (.getfield 115, 3) := by decide +kernel
theorem dX4_giveBack_85 : decode cX4_giveBack 85 = .ok (.aload_n 3, 1) := by decide +kernel
theorem dX4_giveBack_86 : decode cX4_giveBack 86 = .ok (.getfield 115, 3) := by decide +kernel
theorem dX4_giveBack_89 : decode cX4_giveBack 89 = .ok (.invokevirtual 151, 3) := by decide +kernel
theorem dX4_giveBack_92 : decode cX4_giveBack 92 = .ok (.aload_n 3, 1) := by decide +kernel
theorem dX4_giveBack_93 : decode cX4_giveBack 93 = .ok (.getfield 115, 3) := by decide +kernel
theorem dX4_giveBack_96 : decode cX4_giveBack 96 = .ok (.invokevirtual 154, 3) := by decide +kernel
theorem dX4_giveBack_99 : decode cX4_giveBack 99 = .ok (.aload_n 3, 1) := by decide +kernel
theorem dX4_giveBack_100 : decode cX4_giveBack 100 = .ok (.invokevirtual 157, 3) := by decide +kernel
theorem dX4_giveBack_103 : decode cX4_giveBack 103 = .ok (.aload 5, 2) := by decide +kernel
theorem dX4_giveBack_105 : decode cX4_giveBack 105 = .ok (.getfield 128, 3) := by decide +kernel
theorem dX4_giveBack_108 : decode cX4_giveBack 108 = .ok (.ireturn, 1) := by decide +kernel
theorem dX4_placeMould_0 : decode cX4_placeMould 0 = .ok (.iload_n 1, 1) := by decide +kernel
theorem dX4_placeMould_1 : decode cX4_placeMould 1 = .ok (.iconst 1, 1) := by decide +kernel
theorem dX4_placeMould_2 : decode cX4_placeMould 2 = .ok (.if_icmp .lt 9, 3) := by decide +kernel
theorem dX4_placeMould_5 : decode cX4_placeMould 5 = .ok (.iload_n 1, 1) := by decide +kernel
theorem dX4_placeMould_6 : decode cX4_placeMould 6 = .ok (.bipush 40, 2) := by decide +kernel
theorem dX4_placeMould_8 : decode cX4_placeMould 8 = .ok (.if_icmp .le 6, 3) := by decide +kernel
theorem dX4_placeMould_11 : decode cX4_placeMould 11 = .ok (.bipush (-2), 2) := by decide +kernel
theorem dX4_placeMould_13 : decode cX4_placeMould 13 = .ok (.ireturn, 1) := by decide +kernel
theorem dX4_placeMould_14 : decode cX4_placeMould 14 = .ok (.aload_n 0, 1) := by decide +kernel
theorem dX4_placeMould_15 : decode cX4_placeMould 15 = .ok (.getfield 33, 3) := by decide +kernel
theorem dX4_placeMould_18 : decode cX4_placeMould 18 = .ok (.bipush 6, 2) := by decide +kernel
theorem dX4_placeMould_20 : decode cX4_placeMould 20 = .ok (.if_icmp .lt 6, 3) := by decide +kernel
theorem dX4_placeMould_23 : decode cX4_placeMould 23 = .ok (.bipush (-4), 2) := by decide +kernel
theorem dX4_placeMould_25 : decode cX4_placeMould 25 = .ok (.ireturn, 1) := by decide +kernel
theorem dX4_placeMould_26 : decode cX4_placeMould 26 = .ok (.aload_n 0, 1) := by decide +kernel
theorem dX4_placeMould_27 : decode cX4_placeMould 27 = .ok (.getfield 30, 3) := by decide +kernel
theorem dX4_placeMould_30 : decode cX4_placeMould 30 = .ok (.aload_n 0, 1) := by decide +kernel
theorem dX4_placeMould_31 : decode cX4_placeMould 31 = .ok (.getfield 33, 3) := by decide +kernel
theorem dX4_placeMould_34 : decode cX4_placeMould 34 = .ok (.iload_n 1, 1) := by decide +kernel
theorem dX4_placeMould_35 : decode cX4_placeMould 35 = .ok (.iastore, 1) := by decide +kernel
theorem dX4_placeMould_36 : decode cX4_placeMould 36 = .ok (.aload_n 0, 1) := by decide +kernel
theorem dX4_placeMould_37 : decode cX4_placeMould 37 = .ok (.getfield 26, 3) := by decide +kernel
theorem dX4_placeMould_40 : decode cX4_placeMould 40 = .ok (.aload_n 0, 1) := by decide +kernel
theorem dX4_placeMould_41 : decode cX4_placeMould 41 = .ok (.getfield 33, 3) := by decide +kernel
theorem dX4_placeMould_44 : decode cX4_placeMould 44 = .ok (.aaload, 1) := by decide +kernel
theorem dX4_placeMould_45 : decode cX4_placeMould 45 = .ok (.invokevirtual 154, 3) := by decide +kernel
theorem dX4_placeMould_48 : decode cX4_placeMould 48 = .ok (.aload_n 0, 1) := by decide +kernel
theorem dX4_placeMould_49 : decode cX4_placeMould 49 = .ok (.dup, 1) := by decide +kernel
theorem dX4_placeMould_50 : decode cX4_placeMould 50 = .ok (.getfield 33, 3) := by decide +kernel
theorem dX4_placeMould_53 : decode cX4_placeMould 53 = .ok (.iconst 1, 1) := by decide +kernel
theorem dX4_placeMould_54 : decode cX4_placeMould 54 = .ok (.iadd, 1) := by decide +kernel
theorem dX4_placeMould_55 : decode cX4_placeMould 55 = .ok (.putfield 33, 3) := by decide +kernel
theorem dX4_placeMould_58 : decode cX4_placeMould 58 = .ok (.aload_n 0, 1) := by decide +kernel
theorem dX4_placeMould_59 : decode cX4_placeMould 59 = .ok (.getfield 33, 3) := by decide +kernel
theorem dX4_placeMould_62 : decode cX4_placeMould 62 = .ok (.iconst 1, 1) := by decide +kernel
theorem dX4_placeMould_63 : decode cX4_placeMould 63 = .ok (.isub, 1) := by decide +kernel
theorem dX4_placeMould_64 : decode cX4_placeMould 64 = .ok (.ireturn, 1) := by decide +kernel
theorem dX4_cast_0 : decode cX4_cast 0 = .ok (.iload_n 1, 1) := by decide +kernel
theorem dX4_cast_1 : decode cX4_cast 1 = .ok (.iconst 3, 1) := by decide +kernel
theorem dX4_cast_2 : decode cX4_cast 2 = .ok (.invokestatic 108, 3) := by decide +kernel
theorem dX4_cast_5 : decode cX4_cast 5 = .ok (.ifCond .ne 14, 3) := by decide +kernel
theorem dX4_cast_8 : decode cX4_cast 8 = .ok (.iload_n 2, 1) := by decide +kernel
theorem dX4_cast_9 : decode cX4_cast 9 = .ok (.aload_n 0, 1) := by decide +kernel
theorem dX4_cast_10 : decode cX4_cast 10 = .ok (.getfield 33, 3) := by decide +kernel
theorem dX4_cast_13 : decode cX4_cast 13 = .ok (.invokestatic 108, 3) := by decide +kernel
theorem dX4_cast_16 : decode cX4_cast 16 = .ok (.ifCond .eq 5, 3) := by decide +kernel
theorem dX4_cast_19 : decode cX4_cast 19 = .ok (.iconst (-1), 1) := by decide +kernel
theorem dX4_cast_20 : decode cX4_cast 20 = .ok (.ireturn, 1) := by decide +kernel
theorem dX4_cast_21 : decode cX4_cast 21 = .ok (.aload_n 0, 1) := by decide +kernel
theorem dX4_cast_22 : decode cX4_cast 22 = .ok (.getfield 26, 3) := by decide +kernel
theorem dX4_cast_25 : decode cX4_cast 25 = .ok (.iload_n 2, 1) := by decide +kernel
theorem dX4_cast_26 : decode cX4_cast 26 = .ok (.aaload, 1) := by decide +kernel
theorem dX4_cast_27 : decode cX4_cast 27 = .ok (.invokevirtual 118, 3) := by decide +kernel
theorem dX4_cast_30 : decode cX4_cast 30 = .ok (.ifCond .le 6, 3) := by decide +kernel
theorem dX4_cast_33 : decode cX4_cast 33 = .ok (.bipush (-4), 2) := by decide +kernel
theorem dX4_cast_35 : decode cX4_cast 35 = .ok (.ireturn, 1) := by decide +kernel
theorem dX4_cast_36 : decode cX4_cast 36 = .ok (.aload_n 0, 1) := by decide +kernel
theorem dX4_cast_37 : decode cX4_cast 37 = .ok (.getfield 21, 3) := by decide +kernel
theorem dX4_cast_40 : decode cX4_cast 40 = .ok (.iload_n 1, 1) := by decide +kernel
theorem dX4_cast_41 : decode cX4_cast 41 = .ok (.aaload, 1) := by decide +kernel
theorem dX4_cast_42 : decode cX4_cast 42 = .ok (.astore_n 3, 1) := by decide +kernel
theorem dX4_cast_43 : decode cX4_cast 43 = .ok (.aload_n 3, 1) := by decide +kernel
theorem dX4_cast_44 : decode cX4_cast 44 = .ok (.getfield 115, 3) := by decide +kernel
theorem dX4_cast_47 : decode cX4_cast 47 = .ok (.invokevirtual 118, 3) := by decide +kernel
theorem dX4_cast_50 : decode cX4_cast 50 = .ok (.aload_n 0, 1) := by decide +kernel
theorem dX4_cast_51 : decode cX4_cast 51 = .ok (.getfield 30, 3) := by decide +kernel
theorem dX4_cast_54 : decode cX4_cast 54 = .ok (.iload_n 2, 1) := by decide +kernel
theorem dX4_cast_55 : decode cX4_cast 55 = .ok (.iaload, 1) := by decide +kernel
theorem dX4_cast_56 : decode cX4_cast 56 = .ok (.if_icmp .ge 6, 3) := by decide +kernel
theorem dX4_cast_59 : decode cX4_cast 59 = .ok (.bipush (-3), 2) := by decide +kernel
theorem dX4_cast_61 : decode cX4_cast 61 = .ok (.ireturn, 1) := by decide +kernel
theorem dX4_cast_62 : decode cX4_cast 62 = .ok (.aload_n 3, 1) := by decide +kernel
theorem dX4_cast_63 : decode cX4_cast 63 = .ok (.invokevirtual 131, 3) := by decide +kernel
theorem dX4_cast_66 : decode cX4_cast 66 = .ok (.ifCond .ne 6, 3) := by decide +kernel
theorem dX4_cast_69 : decode cX4_cast 69 = .ok (.bipush (-5), 2) := by decide +kernel
theorem dX4_cast_71 : decode cX4_cast 71 = .ok (.ireturn, 1) := by decide +kernel
theorem dX4_cast_72 : decode cX4_cast 72 = .ok (.aload_n 3, 1) := by decide +kernel
theorem dX4_cast_73 : decode cX4_cast 73 = .ok (.getfield 115, 3) := by decide +kernel
theorem dX4_cast_76 : decode cX4_cast 76 = .ok (.aload_n 0, 1) := by decide +kernel
theorem dX4_cast_77 : decode cX4_cast 77 = .ok (.getfield 30, 3) := by decide +kernel
theorem dX4_cast_80 : decode cX4_cast 80 = .ok (.iload_n 2, 1) := by decide +kernel
theorem dX4_cast_81 : decode cX4_cast 81 = .ok (.iaload, 1) := by decide +kernel
theorem dX4_cast_82 : decode cX4_cast 82 = .ok (.aload_n 0, 1) := by decide +kernel
theorem dX4_cast_83 : decode cX4_cast 83 = .ok (.getfield 26, 3) := by decide +kernel
theorem dX4_cast_86 : decode cX4_cast 86 = .ok (.iload_n 2, 1) := by decide +kernel
theorem dX4_cast_87 : decode cX4_cast 87 = .ok (.aaload, 1) := by decide +kernel
theorem dX4_cast_88 : decode cX4_cast 88 = .ok (.invokevirtual 147, 3) := by decide +kernel
theorem dX4_cast_91 : decode cX4_cast 91 = .ok (.aload_n 3, 1) := by decide +kernel
theorem dX4_cast_92 : decode cX4_cast 92 = .ok (.invokevirtual 157, 3) := by decide +kernel
theorem dX4_cast_95 : decode cX4_cast 95 = .ok (.aload_n 3, 1) := by decide +kernel
theorem dX4_cast_96 : decode cX4_cast 96 = .ok (.getfield 115, 3) := by decide +kernel
theorem dX4_cast_99 : decode cX4_cast 99 = .ok (.invokevirtual 118, 3) := by decide +kernel
theorem dX4_cast_102 : decode cX4_cast 102 = .ok (.ireturn, 1) := by decide +kernel
theorem dX4_knockOut_0 : decode cX4_knockOut 0 = .ok (.iload_n 1, 1) := by decide +kernel
theorem dX4_knockOut_1 : decode cX4_knockOut 1 = .ok (.aload_n 0, 1) := by decide +kernel
theorem dX4_knockOut_2 : decode cX4_knockOut 2 = .ok (.getfield 33, 3) := by decide +kernel
theorem dX4_knockOut_5 : decode cX4_knockOut 5 = .ok (.invokestatic 108, 3) := by decide +kernel
theorem dX4_knockOut_8 : decode cX4_knockOut 8 = .ok (.ifCond .eq 5, 3) := by decide +kernel
theorem dX4_knockOut_11 : decode cX4_knockOut 11 = .ok (.iconst (-1), 1) := by decide +kernel
theorem dX4_knockOut_12 : decode cX4_knockOut 12 = .ok (.ireturn, 1) := by decide +kernel
theorem dX4_knockOut_13 : decode cX4_knockOut 13 = .ok (.aload_n 0, 1) := by decide +kernel
theorem dX4_knockOut_14 : decode cX4_knockOut 14 = .ok (.getfield 26, 3) := by decide +kernel
theorem dX4_knockOut_17 : decode cX4_knockOut 17 = .ok (.iload_n 1, 1) := by decide +kernel
theorem dX4_knockOut_18 : decode cX4_knockOut 18 = .ok (.aaload, 1) := by decide +kernel
theorem dX4_knockOut_19 : decode cX4_knockOut 19 = .ok (.invokevirtual 118, 3) := by decide +kernel
theorem dX4_knockOut_22 : decode cX4_knockOut 22 = .ok (.ifCond .ne 6, 3) := by decide +kernel
theorem dX4_knockOut_25 : decode cX4_knockOut 25 = .ok (.bipush (-3), 2) := by decide +kernel
theorem dX4_knockOut_27 : decode cX4_knockOut 27 = .ok (.ireturn, 1) := by decide +kernel
theorem dX4_knockOut_28 : decode cX4_knockOut 28 = .ok (.aload_n 0, 1) := by decide +kernel
theorem dX4_knockOut_29 : decode cX4_knockOut 29 = .ok (.getfield 40, 3) := by decide +kernel
theorem dX4_knockOut_32 : decode cX4_knockOut 32 = .ok (.bipush 12, 2) := by decide +kernel
theorem dX4_knockOut_34 : decode cX4_knockOut 34 = .ok (.if_icmp .lt 6, 3) := by decide +kernel
theorem dX4_knockOut_37 : decode cX4_knockOut 37 = .ok (.bipush (-4), 2) := by decide +kernel
theorem dX4_knockOut_39 : decode cX4_knockOut 39 = .ok (.ireturn, 1) := by decide +kernel
theorem dX4_knockOut_40 : decode cX4_knockOut 40 = .ok (.aload_n 0, 1) := by decide +kernel
theorem dX4_knockOut_41 : decode cX4_knockOut 41 = .ok (.getfield 37, 3) := by decide +kernel
theorem dX4_knockOut_44 : decode cX4_knockOut 44 = .ok (.aload_n 0, 1) := by decide +kernel
theorem dX4_knockOut_45 : decode cX4_knockOut 45 = .ok (.getfield 40, 3) := by decide +kernel
theorem dX4_knockOut_48 : decode cX4_knockOut 48 = .ok (.aaload, 1) := by decide +kernel
theorem dX4_knockOut_49 : decode cX4_knockOut 49 = .ok (.aload_n 0, 1) := by decide +kernel
theorem dX4_knockOut_50 : decode cX4_knockOut 50 = .ok (.getfield 26, 3) := by decide +kernel
theorem dX4_knockOut_53 : decode cX4_knockOut 53 = .ok (.iload_n 1, 1) := by decide +kernel
theorem dX4_knockOut_54 : decode cX4_knockOut 54 = .ok (.aaload, 1) := by decide +kernel
theorem dX4_knockOut_55 : decode cX4_knockOut 55 = .ok (.invokevirtual 61, 3) := by decide +kernel
theorem dX4_knockOut_58 : decode cX4_knockOut 58 = .ok (.aload_n 0, 1) := by decide +kernel
theorem dX4_knockOut_59 : decode cX4_knockOut 59 = .ok (.getfield 26, 3) := by decide +kernel
theorem dX4_knockOut_62 : decode cX4_knockOut 62 = .ok (.iload_n 1, 1) := by decide +kernel
theorem dX4_knockOut_63 : decode cX4_knockOut 63 = .ok (.aaload, 1) := by decide +kernel
theorem dX4_knockOut_64 : decode cX4_knockOut 64 = .ok (.invokevirtual 154, 3) := by decide +kernel
theorem dX4_knockOut_67 : decode cX4_knockOut 67 = .ok (.aload_n 0, 1) := by decide +kernel
theorem dX4_knockOut_68 : decode cX4_knockOut 68 = .ok (.dup, 1) := by decide +kernel
theorem dX4_knockOut_69 : decode cX4_knockOut 69 = .ok (.getfield 40, 3) := by decide +kernel
theorem dX4_knockOut_72 : decode cX4_knockOut 72 = .ok (.iconst 1, 1) := by decide +kernel
theorem dX4_knockOut_73 : decode cX4_knockOut 73 = .ok (.iadd, 1) := by decide +kernel
theorem dX4_knockOut_74 : decode cX4_knockOut 74 = .ok (.putfield 40, 3) := by decide +kernel
theorem dX4_knockOut_77 : decode cX4_knockOut 77 = .ok (.aload_n 0, 1) := by decide +kernel
theorem dX4_knockOut_78 : decode cX4_knockOut 78 = .ok (.getfield 40, 3) := by decide +kernel
theorem dX4_knockOut_81 : decode cX4_knockOut 81 = .ok (.iconst 1, 1) := by decide +kernel
theorem dX4_knockOut_82 : decode cX4_knockOut 82 = .ok (.isub, 1) := by decide +kernel
theorem dX4_knockOut_83 : decode cX4_knockOut 83 = .ok (.ireturn, 1) := by decide +kernel
theorem dX4_remelt_0 : decode cX4_remelt 0 = .ok (.iload_n 1, 1) := by decide +kernel
theorem dX4_remelt_1 : decode cX4_remelt 1 = .ok (.aload_n 0, 1) := by decide +kernel
theorem dX4_remelt_2 : decode cX4_remelt 2 = .ok (.getfield 40, 3) := by decide +kernel
theorem dX4_remelt_5 : decode cX4_remelt 5 = .ok (.invokestatic 108, 3) := by decide +kernel
theorem dX4_remelt_8 : decode cX4_remelt 8 = .ok (.ifCond .ne 11, 3) := by decide +kernel
theorem dX4_remelt_11 : decode cX4_remelt 11 = .ok (.iload_n 2, 1) := by decide +kernel
theorem dX4_remelt_12 : decode cX4_remelt 12 = .ok (.iconst 3, 1) := by decide +kernel
theorem dX4_remelt_13 : decode cX4_remelt 13 = .ok (.invokestatic 108, 3) := by decide +kernel
theorem dX4_remelt_16 : decode cX4_remelt 16 = .ok (.ifCond .eq 5, 3) := by decide +kernel
theorem dX4_remelt_19 : decode cX4_remelt 19 = .ok (.iconst (-1), 1) := by decide +kernel
theorem dX4_remelt_20 : decode cX4_remelt 20 = .ok (.ireturn, 1) := by decide +kernel
theorem dX4_remelt_21 : decode cX4_remelt 21 = .ok (.aload_n 0, 1) := by decide +kernel
theorem dX4_remelt_22 : decode cX4_remelt 22 = .ok (.getfield 11, 3) := by decide +kernel
theorem dX4_remelt_25 : decode cX4_remelt 25 = .ok (.iload_n 2, 1) := by decide +kernel
theorem dX4_remelt_26 : decode cX4_remelt 26 = .ok (.aaload, 1) := by decide +kernel
theorem dX4_remelt_27 : decode cX4_remelt 27 = .ok (.astore_n 3, 1) := by decide +kernel
theorem dX4_remelt_28 : decode cX4_remelt 28 = .ok (.aload_n 0, 1) := by decide +kernel
theorem dX4_remelt_29 : decode cX4_remelt 29 = .ok (.getfield 37, 3) := by decide +kernel
theorem dX4_remelt_32 : decode cX4_remelt 32 = .ok (.iload_n 1, 1) := by decide +kernel
theorem dX4_remelt_33 : decode cX4_remelt 33 = .ok (.aaload, 1) := by decide +kernel
theorem dX4_remelt_34 : decode cX4_remelt 34 = .ok (.invokevirtual 118, 3) := by decide +kernel
theorem dX4_remelt_37 : decode cX4_remelt 37 = .ok (.istore 4, 2) := by decide +kernel
theorem dX4_remelt_39 : decode cX4_remelt 39 = .ok (.aload_n 3, 1) := by decide +kernel
theorem dX4_remelt_40 : decode cX4_remelt 40 = .ok (.getfield 115, 3) := by decide +kernel
theorem dX4_remelt_43 : decode cX4_remelt 43 = .ok (.invokevirtual 118, 3) := by decide +kernel
theorem dX4_remelt_46 : decode cX4_remelt 46 = .ok (.iload 4, 2) := by decide +kernel
theorem dX4_remelt_48 : decode cX4_remelt 48 = .ok (.iadd, 1) := by decide +kernel
theorem dX4_remelt_49 : decode cX4_remelt 49 = .ok (.bipush 100, 2) := by decide +kernel
theorem dX4_remelt_51 : decode cX4_remelt 51 = .ok (.if_icmp .le 6, 3) := by decide +kernel
theorem dX4_remelt_54 : decode cX4_remelt 54 = .ok (.bipush (-5), 2) := by decide +kernel
theorem dX4_remelt_56 : decode cX4_remelt 56 = .ok (.ireturn, 1) := by decide +kernel
theorem dX4_remelt_57 : decode cX4_remelt 57 = .ok (.aload_n 3, 1) := by decide +kernel
theorem dX4_remelt_58 : decode cX4_remelt 58 = .ok (.iload 4, 2) := by decide +kernel
theorem dX4_remelt_60 : decode cX4_remelt 60 = .ok (.bipush 20, 2) := by decide +kernel
theorem dX4_remelt_62 : decode cX4_remelt 62 = .ok (.invokevirtual 121, 3) := by decide +kernel
theorem dX4_remelt_65 : decode cX4_remelt 65 = .ok (.aload_n 3, 1) := by decide +kernel
theorem dX4_remelt_66 : decode cX4_remelt 66 = .ok (.getfield 115, 3) := by decide +kernel
theorem dX4_remelt_69 : decode cX4_remelt 69 = .ok (.aload_n 0, 1) := by decide +kernel
theorem dX4_remelt_70 : decode cX4_remelt 70 = .ok (.getfield 37, 3) := by decide +kernel
theorem dX4_remelt_73 : decode cX4_remelt 73 = .ok (.iload_n 1, 1) := by decide +kernel
theorem dX4_remelt_74 : decode cX4_remelt 74 = .ok (.aaload, 1) := by decide +kernel
theorem dX4_remelt_75 : decode cX4_remelt 75 = .ok (.invokevirtual 151, 3) := by decide +kernel
theorem dX4_remelt_78 : decode cX4_remelt 78 = .ok (.iload_n 1, 1) := by decide +kernel
theorem dX4_remelt_79 : decode cX4_remelt 79 = .ok (.iconst 1, 1) := by decide +kernel
theorem dX4_remelt_80 : decode cX4_remelt 80 = .ok (.iadd, 1) := by decide +kernel
theorem dX4_remelt_81 : decode cX4_remelt 81 = .ok (.istore 5, 2) := by decide +kernel
theorem dX4_remelt_83 : decode cX4_remelt 83 = .ok (.iload 5, 2) := by decide +kernel
theorem dX4_remelt_85 : decode cX4_remelt 85 = .ok (.aload_n 0, 1) := by decide +kernel
theorem dX4_remelt_86 : decode cX4_remelt 86 = .ok (.getfield 40, 3) := by decide +kernel
theorem dX4_remelt_89 : decode cX4_remelt 89 = .ok (.if_icmp .ge 28, 3) := by decide +kernel
theorem dX4_remelt_92 : decode cX4_remelt 92 = .ok (.aload_n 0, 1) := by decide +kernel
theorem dX4_remelt_93 : decode cX4_remelt 93 = .ok (.getfield 37, 3) := by decide +kernel
theorem dX4_remelt_96 : decode cX4_remelt 96 = .ok (.iload 5, 2) := by decide +kernel
theorem dX4_remelt_98 : decode cX4_remelt 98 = .ok (.iconst 1, 1) := by decide +kernel
theorem dX4_remelt_99 : decode cX4_remelt 99 = .ok (.isub, 1) := by decide +kernel
theorem dX4_remelt_100 : decode cX4_remelt 100 = .ok (.aaload, 1) := by decide +kernel
theorem dX4_remelt_101 : decode cX4_remelt 101 = .ok (.aload_n 0, 1) := by decide +kernel
theorem dX4_remelt_102 : decode cX4_remelt 102 = .ok (.getfield 37, 3) := by decide +kernel
theorem dX4_remelt_105 : decode cX4_remelt 105 = .ok (.iload 5, 2) := by decide +kernel
theorem dX4_remelt_107 : decode cX4_remelt 107 = .ok (.aaload, 1) := by decide +kernel
theorem dX4_remelt_108 : decode cX4_remelt 108 = .ok (.invokevirtual 61, 3) := by decide +kernel
theorem dX4_remelt_111 : decode cX4_remelt 111 = .ok (.iinc 5 1, 3) := by decide +kernel
theorem dX4_remelt_114 : decode cX4_remelt 114 = .ok (.goto (-31), 3) := by decide +kernel
theorem dX4_remelt_117 : decode cX4_remelt 117 = .ok (.aload_n 0, 1) := by decide +kernel
theorem dX4_remelt_118 : decode cX4_remelt 118 = .ok (.dup, 1) := by decide +kernel
theorem dX4_remelt_119 : decode cX4_remelt 119 = .ok (.getfield 40, 3) := by decide +kernel
theorem dX4_remelt_122 : decode cX4_remelt 122 = .ok (.iconst 1, 1) := by decide +kernel
theorem dX4_remelt_123 : decode cX4_remelt 123 = .ok (.isub, 1) := by decide +kernel
theorem dX4_remelt_124 : decode cX4_remelt 124 = .ok (.putfield 40, 3) := by decide +kernel
theorem dX4_remelt_127 : decode cX4_remelt 127 = .ok (.aload_n 3, 1) := by decide +kernel
theorem dX4_remelt_128 : decode cX4_remelt 128 = .ok (.getfield 128, 3) := by decide +kernel
theorem dX4_remelt_131 : decode cX4_remelt 131 = .ok (.ireturn, 1) := by decide +kernel
theorem dX4_pass_0 : decode cX4_pass 0 = .ok (.iload_n 1, 1) := by decide +kernel
theorem dX4_pass_1 : decode cX4_pass 1 = .ok (.iconst 1, 1) := by decide +kernel
theorem dX4_pass_2 : decode cX4_pass 2 = .ok (.if_icmp .lt 10, 3) := by decide +kernel
theorem dX4_pass_5 : decode cX4_pass 5 = .ok (.iload_n 1, 1) := by decide +kernel
theorem dX4_pass_6 : decode cX4_pass 6 = .ok (.sipush 200, 3) := by decide +kernel
theorem dX4_pass_9 : decode cX4_pass 9 = .ok (.if_icmp .le 6, 3) := by decide +kernel
theorem dX4_pass_12 : decode cX4_pass 12 = .ok (.bipush (-2), 2) := by decide +kernel
theorem dX4_pass_14 : decode cX4_pass 14 = .ok (.ireturn, 1) := by decide +kernel
theorem dX4_pass_15 : decode cX4_pass 15 = .ok (.iconst 0, 1) := by decide +kernel
theorem dX4_pass_16 : decode cX4_pass 16 = .ok (.istore_n 2, 1) := by decide +kernel
theorem dX4_pass_17 : decode cX4_pass 17 = .ok (.iload_n 2, 1) := by decide +kernel
theorem dX4_pass_18 : decode cX4_pass 18 = .ok (.iload_n 1, 1) := by decide +kernel
theorem dX4_pass_19 : decode cX4_pass 19 = .ok (.if_icmp .ge 13, 3) := by decide +kernel
theorem dX4_pass_22 : decode cX4_pass 22 = .ok (.aload_n 0, 1) := by decide +kernel
theorem dX4_pass_23 : decode cX4_pass 23 = .ok (.invokevirtual 160, 3) := by decide +kernel
theorem dX4_pass_26 : decode cX4_pass 26 = .ok (.iinc 2 1, 3) := by decide +kernel
theorem dX4_pass_29 : decode cX4_pass 29 = .ok (.goto (-12), 3) := by decide +kernel
theorem dX4_pass_32 : decode cX4_pass 32 = .ok (.iconst 0, 1) := by decide +kernel
theorem dX4_pass_33 : decode cX4_pass 33 = .ok (.istore_n 2, 1) := by decide +kernel
theorem dX4_pass_34 : decode cX4_pass 34 = .ok (.iconst 0, 1) := by decide +kernel
theorem dX4_pass_35 : decode cX4_pass 35 = .ok (.istore_n 3, 1) := by decide +kernel
theorem dX4_pass_36 : decode cX4_pass 36 = .ok (.iload_n 3, 1) := by decide +kernel
theorem dX4_pass_37 : decode cX4_pass 37 = .ok (.iconst 3, 1) := by decide +kernel
theorem dX4_pass_38 : decode cX4_pass 38 = .ok (.if_icmp .ge 29, 3) := by decide +kernel
theorem dX4_pass_41 : decode cX4_pass 41 = .ok (.iload_n 2, 1) := by decide +kernel
theorem dX4_pass_42 : decode cX4_pass 42 = .ok (.aload_n 0, 1) := by decide +kernel
theorem dX4_pass_43 : decode cX4_pass 43 = .ok (.getfield 11, 3) := by decide +kernel
theorem dX4_pass_46 : decode cX4_pass 46 = .ok (.iload_n 3, 1) := by decide +kernel
theorem dX4_pass_47 : decode cX4_pass 47 = .ok (.aaload, 1) := by decide +kernel
theorem dX4_pass_48 : decode cX4_pass 48 = .ok (.invokevirtual 131, 3) := by decide +kernel
theorem dX4_pass_51 : decode cX4_pass 51 = .ok (.ifCond .eq 7, 3) := by decide +kernel
theorem dX4_pass_54 : decode cX4_pass 54 = .ok (.iconst 1, 1) := by decide +kernel
theorem dX4_pass_55 : decode cX4_pass 55 = .ok (.goto 4, 3) := by decide +kernel
theorem dX4_pass_58 : decode cX4_pass 58 = .ok (.iconst 0, 1) := by decide +kernel
theorem dX4_pass_59 : decode cX4_pass 59 = .ok (.iadd, 1) := by decide +kernel
theorem dX4_pass_60 : decode cX4_pass 60 = .ok (.istore_n 2, 1) := by decide +kernel
theorem dX4_pass_61 : decode cX4_pass 61 = .ok (.iinc 3 1, 3) := by decide +kernel
theorem dX4_pass_64 : decode cX4_pass 64 = .ok (.goto (-28), 3) := by decide +kernel
theorem dX4_pass_67 : decode cX4_pass 67 = .ok (.iload_n 2, 1) := by decide +kernel
theorem dX4_pass_68 : decode cX4_pass 68 = .ok (.ireturn, 1) := by decide +kernel
theorem dX4_passOneMinute_0 : decode cX4_passOneMinute 0 = .ok (.aload_n 0, 1) := by decide +kernel
theorem dX4_passOneMinute_1 : decode cX4_passOneMinute 1 = .ok (.dup, 1) := by decide +kernel
theorem dX4_passOneMinute_2 : decode cX4_passOneMinute 2 = .ok (.getfield 51, 3) := by decide +kernel
theorem dX4_passOneMinute_5 : decode cX4_passOneMinute 5 = .ok (.iconst 1, 1) := by decide +kernel
theorem dX4_passOneMinute_6 : decode cX4_passOneMinute 6 = .ok (.iadd, 1) := by decide +kernel
theorem dX4_passOneMinute_7 : decode cX4_passOneMinute 7 = .ok (.putfield 51, 3) := by decide +kernel
theorem dX4_passOneMinute_10 : decode cX4_passOneMinute 10 = .ok (.iconst 0, 1) := by decide +kernel
theorem dX4_passOneMinute_11 : decode cX4_passOneMinute 11 = .ok (.istore_n 1, 1) := by decide +kernel
theorem dX4_passOneMinute_12 : decode cX4_passOneMinute 12 = .ok (.iload_n 1, 1) := by decide +kernel
theorem dX4_passOneMinute_13 : decode cX4_passOneMinute 13 = .ok (.iconst 3, 1) := by decide +kernel
theorem dX4_passOneMinute_14 : decode cX4_passOneMinute 14 = .ok (.if_icmp .ge 23, 3) := by decide +kernel
theorem dX4_passOneMinute_17 : decode cX4_passOneMinute 17 = .ok (.aload_n 0, 1) := by decide +kernel
theorem dX4_passOneMinute_18 : decode cX4_passOneMinute 18 = .ok (.getfield 11, 3) := by decide +kernel
theorem dX4_passOneMinute_21 : decode cX4_passOneMinute 21 = .ok (.iload_n 1, 1) := by decide +kernel
theorem dX4_passOneMinute_22 : decode cX4_passOneMinute 22 = .ok (.aaload, 1) := by decide +kernel
theorem dX4_passOneMinute_23 : decode cX4_passOneMinute 23 = .ok (.aload_n 0, 1) := by decide +kernel
theorem dX4_passOneMinute_24 : decode cX4_passOneMinute 24 = .ok (.iload_n 1, 1) := by decide +kernel
theorem dX4_passOneMinute_25 : decode cX4_passOneMinute 25 = .ok (.invokevirtual 163, 3) := by decide +kernel
theorem dX4_passOneMinute_28 : decode cX4_passOneMinute 28 = .ok (.invokevirtual 166, 3) := by decide +kernel
theorem dX4_passOneMinute_31 : decode cX4_passOneMinute 31 = .ok (.iinc 1 1, 3) := by decide +kernel
theorem dX4_passOneMinute_34 : decode cX4_passOneMinute 34 = .ok (.goto (-22), 3) := by decide +kernel
theorem dX4_passOneMinute_37 : decode cX4_passOneMinute 37 = .ok (.iconst 0, 1) := by decide +kernel
theorem dX4_passOneMinute_38 : decode cX4_passOneMinute 38 = .ok (.istore_n 1, 1) := by decide +kernel
theorem dX4_passOneMinute_39 : decode cX4_passOneMinute 39 = .ok (.iload_n 1, 1) := by decide +kernel
theorem dX4_passOneMinute_40 : decode cX4_passOneMinute 40 = .ok (.iconst 3, 1) := by decide +kernel
theorem dX4_passOneMinute_41 : decode cX4_passOneMinute 41 = .ok (.if_icmp .ge 35, 3) := by decide +kernel
theorem dX4_passOneMinute_44 : decode cX4_passOneMinute 44 = .ok (.aload_n 0, 1) := by decide +kernel
theorem dX4_passOneMinute_45 : decode cX4_passOneMinute 45 = .ok (.getfield 21, 3) := by decide +kernel
theorem dX4_passOneMinute_48 : decode cX4_passOneMinute 48 = .ok (.iload_n 1, 1) := by decide +kernel
theorem dX4_passOneMinute_49 : decode cX4_passOneMinute 49 = .ok (.aaload, 1) := by decide +kernel
theorem dX4_passOneMinute_50 : decode cX4_passOneMinute 50 = .ok (.getfield 115, 3) := by decide +kernel
theorem dX4_passOneMinute_53 : decode cX4_passOneMinute 53 = .ok (.invokevirtual 118, 3) := by decide +kernel
theorem dX4_passOneMinute_56 : decode cX4_passOneMinute 56 = .ok (.ifCond .le 14, 3) := by decide +kernel
theorem dX4_passOneMinute_59 : decode cX4_passOneMinute 59 = .ok (.aload_n 0, 1) := by decide +kernel
theorem dX4_passOneMinute_60 : decode cX4_passOneMinute 60 = .ok (.getfield 21, 3) := by decide +kernel
theorem dX4_passOneMinute_63 : decode cX4_passOneMinute 63 = .ok (.iload_n 1, 1) := by decide +kernel
theorem dX4_passOneMinute_64 : decode cX4_passOneMinute 64 = .ok (.aaload, 1) := by decide +kernel
theorem dX4_passOneMinute_65 : decode cX4_passOneMinute 65 = .ok (.bipush (-10), 2) := by decide +kernel
theorem dX4_passOneMinute_67 : decode cX4_passOneMinute 67 = .ok (.invokevirtual 166, 3) := by decide +kernel
theorem dX4_passOneMinute_70 : decode cX4_passOneMinute 70 = .ok (.iinc 1 1, 3) := by decide +kernel
theorem dX4_passOneMinute_73 : decode cX4_passOneMinute 73 = .ok (.goto (-34), 3) := by decide +kernel
theorem dX4_passOneMinute_76 : decode cX4_passOneMinute 76 = .ok (.return_, 1) := by decide +kernel
theorem dX4_riseOf_0 : decode cX4_riseOf 0 = .ok (.bipush 10, 2) := by decide +kernel
theorem dX4_riseOf_2 : decode cX4_riseOf 2 = .ok (.aload_n 0, 1) := by decide +kernel
theorem dX4_riseOf_3 : decode cX4_riseOf 3 = .ok (.getfield 17, 3) := by decide +kernel
theorem dX4_riseOf_6 : decode cX4_riseOf 6 = .ok (.iload_n 1, 1) := by decide +kernel
theorem dX4_riseOf_7 : decode cX4_riseOf 7 = .ok (.iaload, 1) := by decide +kernel
theorem dX4_riseOf_8 : decode cX4_riseOf 8 = .ok (.imul, 1) := by decide +kernel
theorem dX4_riseOf_9 : decode cX4_riseOf 9 = .ok (.iconst 5, 1) := by decide +kernel
theorem dX4_riseOf_10 : decode cX4_riseOf 10 = .ok (.isub, 1) := by decide +kernel
theorem dX4_riseOf_11 : decode cX4_riseOf 11 = .ok (.ireturn, 1) := by decide +kernel
theorem dX4_willBeMolten_0 : decode cX4_willBeMolten 0 = .ok (.aload_n 0, 1) := by decide +kernel
theorem dX4_willBeMolten_1 : decode cX4_willBeMolten 1 = .ok (.getfield 11, 3) := by decide +kernel
theorem dX4_willBeMolten_4 : decode cX4_willBeMolten 4 = .ok (.iload_n 1, 1) := by decide +kernel
theorem dX4_willBeMolten_5 : decode cX4_willBeMolten 5 = .ok (.aaload, 1) := by decide +kernel
theorem dX4_willBeMolten_6 : decode cX4_willBeMolten 6 = .ok (.invokevirtual 131, 3) := by decide +kernel
theorem dX4_willBeMolten_9 : decode cX4_willBeMolten 9 = .ok (.ifCond .ne 27, 3) := by decide +kernel
theorem dX4_willBeMolten_12 : decode cX4_willBeMolten 12 = .ok (.aload_n 0, 1) := by decide +kernel
theorem dX4_willBeMolten_13 : decode cX4_willBeMolten 13 = .ok (.getfield 11, 3) := by decide +kernel
theorem dX4_willBeMolten_16 : decode cX4_willBeMolten 16 = .ok (.iload_n 1, 1) := by decide +kernel
theorem dX4_willBeMolten_17 : decode cX4_willBeMolten 17 = .ok (.aaload, 1) := by decide +kernel
theorem dX4_willBeMolten_18 : decode cX4_willBeMolten 18 = .ok (.getfield 115, 3) := by decide +kernel
theorem dX4_willBeMolten_21 : decode cX4_willBeMolten 21 = .ok (.invokevirtual 118, 3) := by decide +kernel
theorem dX4_willBeMolten_24 : decode cX4_willBeMolten 24 = .ok (.ifCond .le 16, 3) := by decide +kernel
theorem dX4_willBeMolten_27 : decode cX4_willBeMolten 27 = .ok (.aload_n 0, 1) := by decide +kernel
theorem dX4_willBeMolten_28 : decode cX4_willBeMolten 28 = .ok (.getfield 17, 3) := by decide +kernel
theorem dX4_willBeMolten_31 : decode cX4_willBeMolten 31 = .ok (.iload_n 1, 1) := by decide +kernel
theorem dX4_willBeMolten_32 : decode cX4_willBeMolten 32 = .ok (.iaload, 1) := by decide +kernel
theorem dX4_willBeMolten_33 : decode cX4_willBeMolten 33 = .ok (.ifCond .le 7, 3) := by decide +kernel
theorem dX4_willBeMolten_36 : decode cX4_willBeMolten 36 = .ok (.iconst 1, 1) := by decide +kernel
theorem dX4_willBeMolten_37 : decode cX4_willBeMolten 37 = .ok (.goto 4, 3) := by decide +kernel
theorem dX4_willBeMolten_40 : decode cX4_willBeMolten 40 = .ok (.iconst 0, 1) := by decide +kernel
theorem dX4_willBeMolten_41 : decode cX4_willBeMolten 41 = .ok (.ireturn, 1) := by decide +kernel
theorem dX4_minutesByWaiting_0 : decode cX4_minutesByWaiting 0 = .ok (.aload_n 0, 1) := by decide +kernel
theorem dX4_minutesByWaiting_1 : decode cX4_minutesByWaiting 1 = .ok (.getfield 11, 3) := by decide +kernel
theorem dX4_minutesByWaiting_4 : decode cX4_minutesByWaiting 4 = .ok (.iload_n 1, 1) := by decide +kernel
theorem dX4_minutesByWaiting_5 : decode cX4_minutesByWaiting 5 = .ok (.aaload, 1) := by decide +kernel
theorem dX4_minutesByWaiting_6 : decode cX4_minutesByWaiting 6 = .ok (.getfield 115, 3) := by decide +kernel
theorem dX4_minutesByWaiting_9 : decode cX4_minutesByWaiting 9 = .ok (.invokevirtual 169, 3) := by decide +kernel
theorem dX4_minutesByWaiting_12 : decode cX4_minutesByWaiting 12 = .ok (.istore_n 2, 1) := by decide +kernel
theorem dX4_minutesByWaiting_13 : decode cX4_minutesByWaiting 13 = .ok (.aload_n 0, 1) := by decide +kernel
theorem dX4_minutesByWaiting_14 : decode cX4_minutesByWaiting 14 = .ok (.getfield 11, 3) := by decide +kernel
theorem dX4_minutesByWaiting_17 : decode cX4_minutesByWaiting 17 = .ok (.iload_n 1, 1) := by decide +kernel
theorem dX4_minutesByWaiting_18 : decode cX4_minutesByWaiting 18 = .ok (.aaload, 1) := by decide +kernel
theorem dX4_minutesByWaiting_19 : decode cX4_minutesByWaiting 19 = .ok (.getfield 128, 3) := by decide +kernel
theorem dX4_minutesByWaiting_22 : decode cX4_minutesByWaiting 22 = .ok (.istore_n 3, 1) := by decide +kernel
theorem dX4_minutesByWaiting_23 : decode cX4_minutesByWaiting 23 = .ok (.iconst 0, 1) := by decide +kernel
theorem dX4_minutesByWaiting_24 : decode cX4_minutesByWaiting 24 = .ok (.istore 4, 2) := by decide +kernel
theorem dX4_minutesByWaiting_26 : decode cX4_minutesByWaiting 26 = .ok (.iload_n 3, 1) := by decide +kernel
theorem dX4_minutesByWaiting_27 : decode cX4_minutesByWaiting 27 = .ok (.iload_n 2, 1) := by decide +kernel
theorem dX4_minutesByWaiting_28 : decode cX4_minutesByWaiting 28 = .ok (.if_icmp .ge 27, 3) := by decide +kernel
theorem dX4_minutesByWaiting_31 : decode cX4_minutesByWaiting 31 = .ok (.iload 4, 2) := by decide +kernel
theorem dX4_minutesByWaiting_33 : decode cX4_minutesByWaiting 33 = .ok (.ldc 172, 2) := by decide +kernel
theorem dX4_minutesByWaiting_35 : decode cX4_minutesByWaiting 35 = .ok (.if_icmp .ge 20, 3) := by decide +kernel
theorem dX4_minutesByWaiting_38 : decode cX4_minutesByWaiting 38 = .ok (.iload_n 3, 1) := by decide +kernel
theorem dX4_minutesByWaiting_39 : decode cX4_minutesByWaiting 39 = .ok (.aload_n 0, 1) := by decide +kernel
theorem dX4_minutesByWaiting_40 : decode cX4_minutesByWaiting 40 = .ok (.iload_n 1, 1) := by decide +kernel
theorem dX4_minutesByWaiting_41 : decode cX4_minutesByWaiting 41 = .ok (.invokevirtual 163, 3) := by decide +kernel
theorem dX4_minutesByWaiting_44 : decode cX4_minutesByWaiting 44 = .ok (.iadd, 1) := by decide +kernel
theorem dX4_minutesByWaiting_45 : decode cX4_minutesByWaiting 45 = .ok (.invokestatic 173, 3) := by decide +kernel
theorem dX4_minutesByWaiting_48 : decode cX4_minutesByWaiting 48 = .ok (.istore_n 3, 1) := by decide +kernel
theorem dX4_minutesByWaiting_49 : decode cX4_minutesByWaiting 49 = .ok (.iinc 4 1, 3) := by decide +kernel
theorem dX4_minutesByWaiting_52 : decode cX4_minutesByWaiting 52 = .ok (.goto (-26), 3) := by decide +kernel
theorem dX4_minutesByWaiting_55 : decode cX4_minutesByWaiting 55 = .ok (.iload 4, 2) := by decide +kernel
theorem dX4_minutesByWaiting_57 : decode cX4_minutesByWaiting 57 = .ok (.ireturn, 1) := by decide +kernel
theorem dX4_minutesByDivision_0 : decode cX4_minutesByDivision 0 = .ok (.aload_n 0, 1) := by decide +kernel
theorem dX4_minutesByDivision_1 : decode cX4_minutesByDivision 1 = .ok (.getfield 11, 3) := by decide +kernel
theorem dX4_minutesByDivision_4 : decode cX4_minutesByDivision 4 = .ok (.iload_n 1, 1) := by decide +kernel
theorem dX4_minutesByDivision_5 : decode cX4_minutesByDivision 5 = .ok (.aaload, 1) := by decide +kernel
theorem dX4_minutesByDivision_6 : decode cX4_minutesByDivision 6 = .ok (.getfield 115, 3) := by decide +kernel
theorem dX4_minutesByDivision_9 : decode cX4_minutesByDivision 9 = .ok (.invokevirtual 169, 3) := by decide +kernel
theorem dX4_minutesByDivision_12 : decode cX4_minutesByDivision 12 = .ok (.aload_n 0, 1) := by decide +kernel
theorem dX4_minutesByDivision_13 : decode cX4_minutesByDivision 13 = .ok (.getfield 11, 3) := by decide +kernel
theorem dX4_minutesByDivision_16 : decode cX4_minutesByDivision 16 = .ok (.iload_n 1, 1) := by decide +kernel
theorem dX4_minutesByDivision_17 : decode cX4_minutesByDivision 17 = .ok (.aaload, 1) := by decide +kernel
theorem dX4_minutesByDivision_18 : decode cX4_minutesByDivision 18 = .ok (.getfield 128, 3) := by decide +kernel
theorem dX4_minutesByDivision_21 : decode cX4_minutesByDivision 21 = .ok (.isub, 1) := by decide +kernel
theorem dX4_minutesByDivision_22 : decode cX4_minutesByDivision 22 = .ok (.istore_n 2, 1) := by decide +kernel
theorem dX4_minutesByDivision_23 : decode cX4_minutesByDivision 23 = .ok (.aload_n 0, 1) := by decide +kernel
theorem dX4_minutesByDivision_24 : decode cX4_minutesByDivision 24 = .ok (.iload_n 1, 1) := by decide +kernel
theorem dX4_minutesByDivision_25 : decode cX4_minutesByDivision 25 = .ok (.invokevirtual 163, 3) := by decide +kernel
theorem dX4_minutesByDivision_28 : decode cX4_minutesByDivision 28 = .ok (.istore_n 3, 1) := by decide +kernel
theorem dX4_minutesByDivision_29 : decode cX4_minutesByDivision 29 = .ok (.iload_n 2, 1) := by decide +kernel
theorem dX4_minutesByDivision_30 : decode cX4_minutesByDivision 30 = .ok (.ifCond .le 7, 3) := by decide +kernel
theorem dX4_minutesByDivision_33 : decode cX4_minutesByDivision 33 = .ok (.iload_n 3, 1) := by decide +kernel
theorem dX4_minutesByDivision_34 : decode cX4_minutesByDivision 34 = .ok (.ifCond .gt 5, 3) := by decide +kernel
theorem dX4_minutesByDivision_37 : decode cX4_minutesByDivision 37 = .ok (.iconst 0, 1) := by decide +kernel
theorem dX4_minutesByDivision_38 : decode cX4_minutesByDivision 38 = .ok (.ireturn, 1) := by decide +kernel
theorem dX4_minutesByDivision_39 : decode cX4_minutesByDivision 39 = .ok (.iload_n 2, 1) := by decide +kernel
theorem dX4_minutesByDivision_40 : decode cX4_minutesByDivision 40 = .ok (.iload_n 3, 1) := by decide +kernel
theorem dX4_minutesByDivision_41 : decode cX4_minutesByDivision 41 = .ok (.iadd, 1) := by decide +kernel
theorem dX4_minutesByDivision_42 : decode cX4_minutesByDivision 42 = .ok (.iconst 1, 1) := by decide +kernel
theorem dX4_minutesByDivision_43 : decode cX4_minutesByDivision 43 = .ok (.isub, 1) := by decide +kernel
theorem dX4_minutesByDivision_44 : decode cX4_minutesByDivision 44 = .ok (.iload_n 3, 1) := by decide +kernel
theorem dX4_minutesByDivision_45 : decode cX4_minutesByDivision 45 = .ok (.idiv, 1) := by decide +kernel
theorem dX4_minutesByDivision_46 : decode cX4_minutesByDivision 46 = .ok (.ireturn, 1) := by decide +kernel
theorem dX4_furnaceAgrees_0 : decode cX4_furnaceAgrees 0 = .ok (.aload_n 0, 1) := by decide +kernel
theorem dX4_furnaceAgrees_1 : decode cX4_furnaceAgrees 1 = .ok (.getfield 11, 3) := by decide +kernel
theorem dX4_furnaceAgrees_4 : decode cX4_furnaceAgrees 4 = .ok (.iload_n 1, 1) := by decide +kernel
theorem dX4_furnaceAgrees_5 : decode cX4_furnaceAgrees 5 = .ok (.aaload, 1) := by decide +kernel
theorem dX4_furnaceAgrees_6 : decode cX4_furnaceAgrees 6 = .ok (.getfield 115, 3) := by decide +kernel
theorem dX4_furnaceAgrees_9 : decode cX4_furnaceAgrees 9 = .ok (.astore_n 2, 1) := by decide +kernel
theorem dX4_furnaceAgrees_10 : decode cX4_furnaceAgrees 10 = .ok (.aload_n 2, 1) := by decide +kernel
theorem dX4_furnaceAgrees_11 : decode cX4_furnaceAgrees 11 = .ok (.invokevirtual 118, 3) := by decide +kernel
theorem dX4_furnaceAgrees_14 : decode cX4_furnaceAgrees 14 = .ok (.ifCond .le 16, 3) := by decide +kernel
theorem dX4_furnaceAgrees_17 : decode cX4_furnaceAgrees 17 = .ok (.aload_n 2, 1) := by decide +kernel
theorem dX4_furnaceAgrees_18 : decode cX4_furnaceAgrees 18 = .ok (.invokevirtual 169, 3) := by decide +kernel
theorem dX4_furnaceAgrees_21 : decode cX4_furnaceAgrees 21 = .ok (.aload_n 2, 1) := by decide +kernel
theorem dX4_furnaceAgrees_22 : decode cX4_furnaceAgrees 22 = .ok (.invokevirtual 176, 3) := by decide +kernel
theorem dX4_furnaceAgrees_25 : decode cX4_furnaceAgrees 25 = .ok (.if_icmp .eq 5, 3) := by decide +kernel
theorem dX4_furnaceAgrees_28 : decode cX4_furnaceAgrees 28 = .ok (.iconst 0, 1) := by decide +kernel
theorem dX4_furnaceAgrees_29 : decode cX4_furnaceAgrees 29 = .ok (.ireturn, 1) := by decide +kernel
theorem dX4_furnaceAgrees_30 : decode cX4_furnaceAgrees 30 = .ok (.aload_n 0, 1) := by decide +kernel
theorem dX4_furnaceAgrees_31 : decode cX4_furnaceAgrees 31 = .ok (.iload_n 1, 1) := by decide +kernel
theorem dX4_furnaceAgrees_32 : decode cX4_furnaceAgrees 32 = .ok (.invokevirtual 179, 3) := by decide +kernel
theorem dX4_furnaceAgrees_35 : decode cX4_furnaceAgrees 35 = .ok (.ifCond .eq 16, 3) := by decide +kernel
theorem dX4_furnaceAgrees_38 : decode cX4_furnaceAgrees 38 = .ok (.aload_n 0, 1) := by decide +kernel
theorem dX4_furnaceAgrees_39 : decode cX4_furnaceAgrees 39 = .ok (.iload_n 1, 1) := by decide +kernel
theorem dX4_furnaceAgrees_40 : decode cX4_furnaceAgrees 40 = .ok (.invokevirtual 183, 3) := by decide +kernel
theorem dX4_furnaceAgrees_43 : decode cX4_furnaceAgrees 43 = .ok (.aload_n 0, 1) := by decide +kernel
theorem dX4_furnaceAgrees_44 : decode cX4_furnaceAgrees 44 = .ok (.iload_n 1, 1) := by decide +kernel
theorem dX4_furnaceAgrees_45 : decode cX4_furnaceAgrees 45 = .ok (.invokevirtual 186, 3) := by decide +kernel
theorem dX4_furnaceAgrees_48 : decode cX4_furnaceAgrees 48 = .ok (.if_icmp .ne 7, 3) := by decide +kernel
theorem dX4_furnaceAgrees_51 : decode cX4_furnaceAgrees 51 = .ok (.iconst 1, 1) := by decide +kernel
theorem dX4_furnaceAgrees_52 : decode cX4_furnaceAgrees 52 = .ok (.goto 4, 3) := by decide +kernel
theorem dX4_furnaceAgrees_55 : decode cX4_furnaceAgrees 55 = .ok (.iconst 0, 1) := by decide +kernel
theorem dX4_furnaceAgrees_56 : decode cX4_furnaceAgrees 56 = .ok (.ireturn, 1) := by decide +kernel
theorem dX4_rankOfFurnace_0 : decode cX4_rankOfFurnace 0 = .ok (.iconst 0, 1) := by decide +kernel
theorem dX4_rankOfFurnace_1 : decode cX4_rankOfFurnace 1 = .ok (.istore_n 2, 1) := by decide +kernel
theorem dX4_rankOfFurnace_2 : decode cX4_rankOfFurnace 2 = .ok (.iconst 0, 1) := by decide +kernel
theorem dX4_rankOfFurnace_3 : decode cX4_rankOfFurnace 3 = .ok (.istore_n 3, 1) := by decide +kernel
theorem dX4_rankOfFurnace_4 : decode cX4_rankOfFurnace 4 = .ok (.iload_n 3, 1) := by decide +kernel
theorem dX4_rankOfFurnace_5 : decode cX4_rankOfFurnace 5 = .ok (.iconst 3, 1) := by decide +kernel
theorem dX4_rankOfFurnace_6 : decode cX4_rankOfFurnace 6 = .ok (.if_icmp .ge 26, 3) := by decide +kernel
theorem dX4_rankOfFurnace_9 : decode cX4_rankOfFurnace 9 = .ok (.iload_n 3, 1) := by decide +kernel
theorem dX4_rankOfFurnace_10 : decode cX4_rankOfFurnace 10 = .ok (.iload_n 1, 1) := by decide +kernel
theorem dX4_rankOfFurnace_11 : decode cX4_rankOfFurnace 11 = .ok (.if_icmp .eq 15, 3) := by decide +kernel
theorem dX4_rankOfFurnace_14 : decode cX4_rankOfFurnace 14 = .ok (.aload_n 0, 1) := by decide +kernel
theorem dX4_rankOfFurnace_15 : decode cX4_rankOfFurnace 15 = .ok (.iload_n 3, 1) := by decide +kernel
theorem dX4_rankOfFurnace_16 : decode cX4_rankOfFurnace 16 = .ok (.iload_n 1, 1) := by decide +kernel
theorem dX4_rankOfFurnace_17 : decode cX4_rankOfFurnace 17 = .ok (.invokevirtual 189, 3) := by decide +kernel
theorem dX4_rankOfFurnace_20 : decode cX4_rankOfFurnace 20 = .ok (.ifCond .eq 6, 3) := by decide +kernel
theorem dX4_rankOfFurnace_23 : decode cX4_rankOfFurnace 23 = .ok (.iinc 2 1, 3) := by decide +kernel
theorem dX4_rankOfFurnace_26 : decode cX4_rankOfFurnace 26 = .ok (.iinc 3 1, 3) := by decide +kernel
theorem dX4_rankOfFurnace_29 : decode cX4_rankOfFurnace 29 = .ok (.goto (-25), 3) := by decide +kernel
theorem dX4_rankOfFurnace_32 : decode cX4_rankOfFurnace 32 = .ok (.iload_n 2, 1) := by decide +kernel
theorem dX4_rankOfFurnace_33 : decode cX4_rankOfFurnace 33 = .ok (.ireturn, 1) := by decide +kernel
theorem dX4_furnaceComesFirst_0 : decode cX4_furnaceComesFirst 0 = .ok (.aload_n 0, 1) := by decide +kernel
theorem dX4_furnaceComesFirst_1 : decode cX4_furnaceComesFirst 1 = .ok (.getfield 11, 3) := by decide +kernel
theorem dX4_furnaceComesFirst_4 : decode cX4_furnaceComesFirst 4 = .ok (.iload_n 1, 1) := by decide +kernel
theorem dX4_furnaceComesFirst_5 : decode cX4_furnaceComesFirst 5 = .ok (.aaload, 1) := by decide +kernel
theorem dX4_furnaceComesFirst_6 : decode cX4_furnaceComesFirst 6 = .ok (.getfield 128, 3) := by decide +kernel
theorem dX4_furnaceComesFirst_9 : decode cX4_furnaceComesFirst 9 = .ok (.aload_n 0, 1) := by decide +kernel
theorem dX4_furnaceComesFirst_10 : decode cX4_furnaceComesFirst 10 = .ok (.getfield 11, 3) := by decide +kernel
theorem dX4_furnaceComesFirst_13 : decode cX4_furnaceComesFirst 13 = .ok (.iload_n 2, 1) := by decide +kernel
theorem dX4_furnaceComesFirst_14 : decode cX4_furnaceComesFirst 14 = .ok (.aaload, 1) := by decide +kernel
theorem dX4_furnaceComesFirst_15 : decode cX4_furnaceComesFirst 15 = .ok (.getfield 128, 3) := by decide +kernel
theorem dX4_furnaceComesFirst_18 : decode cX4_furnaceComesFirst 18 = .ok (.if_icmp .eq 30, 3) := by decide +kernel
theorem dX4_furnaceComesFirst_21 : decode cX4_furnaceComesFirst 21 = .ok (.aload_n 0, 1) := by decide +kernel
theorem dX4_furnaceComesFirst_22 : decode cX4_furnaceComesFirst 22 = .ok (.getfield 11, 3) := by decide +kernel
theorem dX4_furnaceComesFirst_25 : decode cX4_furnaceComesFirst 25 = .ok (.iload_n 1, 1) := by decide +kernel
theorem dX4_furnaceComesFirst_26 : decode cX4_furnaceComesFirst 26 = .ok (.aaload, 1) := by decide +kernel
theorem dX4_furnaceComesFirst_27 : decode cX4_furnaceComesFirst 27 = .ok (.getfield 128, 3) := by decide +kernel
theorem dX4_furnaceComesFirst_30 : decode cX4_furnaceComesFirst 30 = .ok (.aload_n 0, 1) := by decide +kernel
theorem dX4_furnaceComesFirst_31 : decode cX4_furnaceComesFirst 31 = .ok (.getfield 11, 3) := by decide +kernel
theorem dX4_furnaceComesFirst_34 : decode cX4_furnaceComesFirst 34 = .ok (.iload_n 2, 1) := by decide +kernel
theorem dX4_furnaceComesFirst_35 : decode cX4_furnaceComesFirst 35 = .ok (.aaload, 1) := by decide +kernel
theorem dX4_furnaceComesFirst_36 : decode cX4_furnaceComesFirst 36 = .ok (.getfield 128, 3) := by decide +kernel
theorem dX4_furnaceComesFirst_39 : decode cX4_furnaceComesFirst 39 = .ok (.if_icmp .le 7, 3) := by decide +kernel
theorem dX4_furnaceComesFirst_42 : decode cX4_furnaceComesFirst 42 = .ok (.iconst 1, 1) := by decide +kernel
theorem dX4_furnaceComesFirst_43 : decode cX4_furnaceComesFirst 43 = .ok (.goto 4, 3) := by decide +kernel
theorem dX4_furnaceComesFirst_46 : decode cX4_furnaceComesFirst 46 = .ok (.iconst 0, 1) := by decide +kernel
theorem dX4_furnaceComesFirst_47 : decode cX4_furnaceComesFirst 47 = .ok (.ireturn, 1) := by decide +kernel
theorem dX4_furnaceComesFirst_48 : decode cX4_furnaceComesFirst 48 = .ok (.aload_n 0, 1) := by decide +kernel
theorem dX4_furnaceComesFirst_49 : decode cX4_furnaceComesFirst 49 = .ok (.getfield 11, 3) := by decide +kernel
theorem dX4_furnaceComesFirst_52 : decode cX4_furnaceComesFirst 52 = .ok (.iload_n 1, 1) := by decide +kernel
theorem dX4_furnaceComesFirst_53 : decode cX4_furnaceComesFirst 53 = .ok (.aaload, 1) := by decide +kernel
theorem dX4_furnaceComesFirst_54 : decode cX4_furnaceComesFirst 54 = .ok (.getfield 115, 3) := by decide +kernel
theorem dX4_furnaceComesFirst_57 : decode cX4_furnaceComesFirst 57 = .ok (.invokevirtual 118, 3) := by decide +kernel
theorem dX4_furnaceComesFirst_60 : decode cX4_furnaceComesFirst 60 = .ok (.istore_n 3, 1) := by decide +kernel
theorem dX4_furnaceComesFirst_61 : decode cX4_furnaceComesFirst 61 = .ok (.aload_n 0, 1) := by decide +kernel
theorem dX4_furnaceComesFirst_62 : decode cX4_furnaceComesFirst 62 = .ok (.getfield 11, 3) := by decide +kernel
theorem dX4_furnaceComesFirst_65 : decode cX4_furnaceComesFirst 65 = .ok (.iload_n 2, 1) := by decide +kernel
theorem dX4_furnaceComesFirst_66 : decode cX4_furnaceComesFirst 66 = .ok (.aaload, 1) := by decide +kernel
theorem dX4_furnaceComesFirst_67 : decode cX4_furnaceComesFirst 67 = .ok (.getfield 115, 3) := by decide +kernel
theorem dX4_furnaceComesFirst_70 : decode cX4_furnaceComesFirst 70 = .ok (.invokevirtual 118, 3) := by decide +kernel
theorem dX4_furnaceComesFirst_73 : decode cX4_furnaceComesFirst 73 = .ok (.istore 4, 2) := by decide +kernel
theorem dX4_furnaceComesFirst_75 : decode cX4_furnaceComesFirst 75 = .ok (.iload_n 3, 1) := by decide +kernel
theorem dX4_furnaceComesFirst_76 : decode cX4_furnaceComesFirst 76 = .ok (.iload 4, 2) := by decide +kernel
theorem dX4_furnaceComesFirst_78 : decode cX4_furnaceComesFirst 78 = .ok (.if_icmp .eq 17, 3) := by decide +kernel
theorem dX4_furnaceComesFirst_81 : decode cX4_furnaceComesFirst 81 = .ok (.iload_n 3, 1) := by decide +kernel
theorem dX4_furnaceComesFirst_82 : decode cX4_furnaceComesFirst 82 = .ok (.iload 4, 2) := by decide +kernel
theorem dX4_furnaceComesFirst_84 : decode cX4_furnaceComesFirst 84 = .ok (.if_icmp .le 7, 3) := by decide +kernel
theorem dX4_furnaceComesFirst_87 : decode cX4_furnaceComesFirst 87 = .ok (.iconst 1, 1) := by decide +kernel
theorem dX4_furnaceComesFirst_88 : decode cX4_furnaceComesFirst 88 = .ok (.goto 17, 3) := by decide +kernel
theorem dX4_furnaceComesFirst_91 : decode cX4_furnaceComesFirst 91 = .ok (.iconst 0, 1) := by decide +kernel
theorem dX4_furnaceComesFirst_92 : decode cX4_furnaceComesFirst 92 = .ok (.goto 13, 3) := by decide +kernel
theorem dX4_furnaceComesFirst_95 : decode cX4_furnaceComesFirst 95 = .ok (.iload_n 1, 1) := by decide +kernel
theorem dX4_furnaceComesFirst_96 : decode cX4_furnaceComesFirst 96 = .ok (.iload_n 2, 1) := by decide +kernel
theorem dX4_furnaceComesFirst_97 : decode cX4_furnaceComesFirst 97 = .ok (.if_icmp .ge 7, 3) := by decide +kernel
theorem dX4_furnaceComesFirst_100 : decode cX4_furnaceComesFirst 100 = .ok (.iconst 1, 1) := by decide +kernel
theorem dX4_furnaceComesFirst_101 : decode cX4_furnaceComesFirst 101 = .ok (.goto 4, 3) := by decide +kernel
theorem dX4_furnaceComesFirst_104 : decode cX4_furnaceComesFirst 104 = .ok (.iconst 0, 1) := by decide +kernel
theorem dX4_furnaceComesFirst_105 : decode cX4_furnaceComesFirst 105 = .ok (.ireturn, 1) := by decide +kernel
theorem dX4_rankOfIngot_0 : decode cX4_rankOfIngot 0 = .ok (.iconst 0, 1) := by decide +kernel
theorem dX4_rankOfIngot_1 : decode cX4_rankOfIngot 1 = .ok (.istore_n 2, 1) := by decide +kernel
theorem dX4_rankOfIngot_2 : decode cX4_rankOfIngot 2 = .ok (.iconst 0, 1) := by decide +kernel
theorem dX4_rankOfIngot_3 : decode cX4_rankOfIngot 3 = .ok (.istore_n 3, 1) := by decide +kernel
theorem dX4_rankOfIngot_4 : decode cX4_rankOfIngot 4 = .ok (.iload_n 3, 1) := by decide +kernel
theorem dX4_rankOfIngot_5 : decode cX4_rankOfIngot 5 = .ok (.aload_n 0, 1) := by decide +kernel
theorem dX4_rankOfIngot_6 : decode cX4_rankOfIngot 6 = .ok (.getfield 40, 3) := by decide +kernel
theorem dX4_rankOfIngot_9 : decode cX4_rankOfIngot 9 = .ok (.if_icmp .ge 26, 3) := by decide +kernel
theorem dX4_rankOfIngot_12 : decode cX4_rankOfIngot 12 = .ok (.iload_n 3, 1) := by decide +kernel
theorem dX4_rankOfIngot_13 : decode cX4_rankOfIngot 13 = .ok (.iload_n 1, 1) := by decide +kernel
theorem dX4_rankOfIngot_14 : decode cX4_rankOfIngot 14 = .ok (.if_icmp .eq 15, 3) := by decide +kernel
theorem dX4_rankOfIngot_17 : decode cX4_rankOfIngot 17 = .ok (.aload_n 0, 1) := by decide +kernel
theorem dX4_rankOfIngot_18 : decode cX4_rankOfIngot 18 = .ok (.iload_n 3, 1) := by decide +kernel
theorem dX4_rankOfIngot_19 : decode cX4_rankOfIngot 19 = .ok (.iload_n 1, 1) := by decide +kernel
theorem dX4_rankOfIngot_20 : decode cX4_rankOfIngot 20 = .ok (.invokevirtual 192, 3) := by decide +kernel
theorem dX4_rankOfIngot_23 : decode cX4_rankOfIngot 23 = .ok (.ifCond .eq 6, 3) := by decide +kernel
theorem dX4_rankOfIngot_26 : decode cX4_rankOfIngot 26 = .ok (.iinc 2 1, 3) := by decide +kernel
theorem dX4_rankOfIngot_29 : decode cX4_rankOfIngot 29 = .ok (.iinc 3 1, 3) := by decide +kernel
theorem dX4_rankOfIngot_32 : decode cX4_rankOfIngot 32 = .ok (.goto (-28), 3) := by decide +kernel
theorem dX4_rankOfIngot_35 : decode cX4_rankOfIngot 35 = .ok (.iload_n 2, 1) := by decide +kernel
theorem dX4_rankOfIngot_36 : decode cX4_rankOfIngot 36 = .ok (.ireturn, 1) := by decide +kernel
theorem dX4_ingotComesFirst_0 : decode cX4_ingotComesFirst 0 = .ok (.aload_n 0, 1) := by decide +kernel
theorem dX4_ingotComesFirst_1 : decode cX4_ingotComesFirst 1 = .ok (.getfield 37, 3) := by decide +kernel
theorem dX4_ingotComesFirst_4 : decode cX4_ingotComesFirst 4 = .ok (.iload_n 1, 1) := by decide +kernel
theorem dX4_ingotComesFirst_5 : decode cX4_ingotComesFirst 5 = .ok (.aaload, 1) := by decide +kernel
theorem dX4_ingotComesFirst_6 : decode cX4_ingotComesFirst 6 = .ok (.invokevirtual 118, 3) := by decide +kernel
theorem dX4_ingotComesFirst_9 : decode cX4_ingotComesFirst 9 = .ok (.istore_n 3, 1) := by decide +kernel
theorem dX4_ingotComesFirst_10 : decode cX4_ingotComesFirst 10 = .ok (.aload_n 0, 1) := by decide +kernel
theorem dX4_ingotComesFirst_11 : decode cX4_ingotComesFirst 11 = .ok (.getfield 37, 3) := by decide +kernel
theorem dX4_ingotComesFirst_14 : decode cX4_ingotComesFirst 14 = .ok (.iload_n 2, 1) := by decide +kernel
theorem dX4_ingotComesFirst_15 : decode cX4_ingotComesFirst 15 = .ok (.aaload, 1) := by decide +kernel
theorem dX4_ingotComesFirst_16 : decode cX4_ingotComesFirst 16 = .ok (.invokevirtual 118, 3) := by decide +kernel
theorem dX4_ingotComesFirst_19 : decode cX4_ingotComesFirst 19 = .ok (.istore 4, 2) := by decide +kernel
theorem dX4_ingotComesFirst_21 : decode cX4_ingotComesFirst 21 = .ok (.iload_n 3, 1) := by decide +kernel
theorem dX4_ingotComesFirst_22 : decode cX4_ingotComesFirst 22 = .ok (.iload 4, 2) := by decide +kernel
theorem dX4_ingotComesFirst_24 : decode cX4_ingotComesFirst 24 = .ok (.if_icmp .eq 15, 3) := by decide +kernel
theorem dX4_ingotComesFirst_27 : decode cX4_ingotComesFirst 27 = .ok (.iload_n 3, 1) := by decide +kernel
theorem dX4_ingotComesFirst_28 : decode cX4_ingotComesFirst 28 = .ok (.iload 4, 2) := by decide +kernel
theorem dX4_ingotComesFirst_30 : decode cX4_ingotComesFirst 30 = .ok (.if_icmp .le 7, 3) := by decide +kernel
theorem dX4_ingotComesFirst_33 : decode cX4_ingotComesFirst 33 = .ok (.iconst 1, 1) := by decide +kernel
theorem dX4_ingotComesFirst_34 : decode cX4_ingotComesFirst 34 = .ok (.goto 4, 3) := by decide +kernel
theorem dX4_ingotComesFirst_37 : decode cX4_ingotComesFirst 37 = .ok (.iconst 0, 1) := by decide +kernel
theorem dX4_ingotComesFirst_38 : decode cX4_ingotComesFirst 38 = .ok (.ireturn, 1) := by decide +kernel
theorem dX4_ingotComesFirst_39 : decode cX4_ingotComesFirst 39 = .ok (.aload_n 0, 1) := by decide +kernel
theorem dX4_ingotComesFirst_40 : decode cX4_ingotComesFirst 40 = .ok (.getfield 37, 3) := by decide +kernel
theorem dX4_ingotComesFirst_43 : decode cX4_ingotComesFirst 43 = .ok (.iload_n 1, 1) := by decide +kernel
theorem dX4_ingotComesFirst_44 : decode cX4_ingotComesFirst 44 = .ok (.aaload, 1) := by decide +kernel
theorem dX4_ingotComesFirst_45 : decode cX4_ingotComesFirst 45 = .ok (.getfield 125, 3) := by decide +kernel
theorem dX4_ingotComesFirst_48 : decode cX4_ingotComesFirst 48 = .ok (.iconst 0, 1) := by decide +kernel
theorem dX4_ingotComesFirst_49 : decode cX4_ingotComesFirst 49 = .ok (.iaload, 1) := by decide +kernel
theorem dX4_ingotComesFirst_50 : decode cX4_ingotComesFirst 50 = .ok (.istore 5, 2) := by decide +kernel
theorem dX4_ingotComesFirst_52 : decode cX4_ingotComesFirst 52 = .ok (.aload_n 0, 1) := by decide +kernel
theorem dX4_ingotComesFirst_53 : decode cX4_ingotComesFirst 53 = .ok (.getfield 37, 3) := by decide +kernel
theorem dX4_ingotComesFirst_56 : decode cX4_ingotComesFirst 56 = .ok (.iload_n 2, 1) := by decide +kernel
theorem dX4_ingotComesFirst_57 : decode cX4_ingotComesFirst 57 = .ok (.aaload, 1) := by decide +kernel
theorem dX4_ingotComesFirst_58 : decode cX4_ingotComesFirst 58 = .ok (.getfield 125, 3) := by decide +kernel
theorem dX4_ingotComesFirst_61 : decode cX4_ingotComesFirst 61 = .ok (.iconst 0, 1) := by decide +kernel
theorem dX4_ingotComesFirst_62 : decode cX4_ingotComesFirst 62 = .ok (.iaload, 1) := by decide +kernel
theorem dX4_ingotComesFirst_63 : decode cX4_ingotComesFirst 63 = .ok (.istore 6, 2) := by decide +kernel
theorem dX4_ingotComesFirst_65 : decode cX4_ingotComesFirst 65 = .ok (.iload 5, 2) := by decide +kernel
theorem dX4_ingotComesFirst_67 : decode cX4_ingotComesFirst 67 = .ok (.iload 6, 2) := by decide +kernel
theorem dX4_ingotComesFirst_69 : decode cX4_ingotComesFirst 69 = .ok (.if_icmp .eq 18, 3) := by decide +kernel
theorem dX4_ingotComesFirst_72 : decode cX4_ingotComesFirst 72 = .ok (.iload 5, 2) := by decide +kernel
theorem dX4_ingotComesFirst_74 : decode cX4_ingotComesFirst 74 = .ok (.iload 6, 2) := by decide +kernel
theorem dX4_ingotComesFirst_76 : decode cX4_ingotComesFirst 76 = .ok (.if_icmp .le 7, 3) := by decide +kernel
theorem dX4_ingotComesFirst_79 : decode cX4_ingotComesFirst 79 = .ok (.iconst 1, 1) := by decide +kernel
theorem dX4_ingotComesFirst_80 : decode cX4_ingotComesFirst 80 = .ok (.goto 17, 3) := by decide +kernel
theorem dX4_ingotComesFirst_83 : decode cX4_ingotComesFirst 83 = .ok (.iconst 0, 1) := by decide +kernel
theorem dX4_ingotComesFirst_84 : decode cX4_ingotComesFirst 84 = .ok (.goto 13, 3) := by decide +kernel
theorem dX4_ingotComesFirst_87 : decode cX4_ingotComesFirst 87 = .ok (.iload_n 1, 1) := by decide +kernel
theorem dX4_ingotComesFirst_88 : decode cX4_ingotComesFirst 88 = .ok (.iload_n 2, 1) := by decide +kernel
theorem dX4_ingotComesFirst_89 : decode cX4_ingotComesFirst 89 = .ok (.if_icmp .ge 7, 3) := by decide +kernel
theorem dX4_ingotComesFirst_92 : decode cX4_ingotComesFirst 92 = .ok (.iconst 1, 1) := by decide +kernel
theorem dX4_ingotComesFirst_93 : decode cX4_ingotComesFirst 93 = .ok (.goto 4, 3) := by decide +kernel
theorem dX4_ingotComesFirst_96 : decode cX4_ingotComesFirst 96 = .ok (.iconst 0, 1) := by decide +kernel
theorem dX4_ingotComesFirst_97 : decode cX4_ingotComesFirst 97 = .ok (.ireturn, 1) := by decide +kernel
theorem dX4_stockInPlaces_0 : decode cX4_stockInPlaces 0 = .ok (.iconst 0, 1) := by decide +kernel
theorem dX4_stockInPlaces_1 : decode cX4_stockInPlaces 1 = .ok (.istore_n 2, 1) := by decide +kernel
theorem dX4_stockInPlaces_2 : decode cX4_stockInPlaces 2 = .ok (.iconst 0, 1) := by decide +kernel
theorem dX4_stockInPlaces_3 : decode cX4_stockInPlaces 3 = .ok (.istore_n 3, 1) := by decide +kernel
theorem dX4_stockInPlaces_4 : decode cX4_stockInPlaces 4 = .ok (.iload_n 3, 1) := by decide +kernel
theorem dX4_stockInPlaces_5 : decode cX4_stockInPlaces 5 = .ok (.iconst 3, 1) := by decide +kernel
theorem dX4_stockInPlaces_6 : decode cX4_stockInPlaces 6 = .ok (.if_icmp .ge 26, 3) := by decide +kernel
theorem dX4_stockInPlaces_9 : decode cX4_stockInPlaces 9 = .ok (.iload_n 2, 1) := by decide +kernel
theorem dX4_stockInPlaces_10 : decode cX4_stockInPlaces 10 = .ok (.aload_n 0, 1) := by decide +kernel
theorem dX4_stockInPlaces_11 : decode cX4_stockInPlaces 11 = .ok (.getfield 11, 3) := by decide +kernel
theorem dX4_stockInPlaces_14 : decode cX4_stockInPlaces 14 = .ok (.iload_n 3, 1) := by decide +kernel
theorem dX4_stockInPlaces_15 : decode cX4_stockInPlaces 15 = .ok (.aaload, 1) := by decide +kernel
theorem dX4_stockInPlaces_16 : decode cX4_stockInPlaces 16 = .ok (.getfield 115, 3) := by decide +kernel
theorem dX4_stockInPlaces_19 : decode cX4_stockInPlaces 19 = .ok (.getfield 125, 3) := by decide +kernel
theorem dX4_stockInPlaces_22 : decode cX4_stockInPlaces 22 = .ok (.iload_n 1, 1) := by decide +kernel
theorem dX4_stockInPlaces_23 : decode cX4_stockInPlaces 23 = .ok (.iaload, 1) := by decide +kernel
theorem dX4_stockInPlaces_24 : decode cX4_stockInPlaces 24 = .ok (.iadd, 1) := by decide +kernel
theorem dX4_stockInPlaces_25 : decode cX4_stockInPlaces 25 = .ok (.istore_n 2, 1) := by decide +kernel
theorem dX4_stockInPlaces_26 : decode cX4_stockInPlaces 26 = .ok (.iinc 3 1, 3) := by decide +kernel
theorem dX4_stockInPlaces_29 : decode cX4_stockInPlaces 29 = .ok (.goto (-25), 3) := by decide +kernel
theorem dX4_stockInPlaces_32 : decode cX4_stockInPlaces 32 = .ok (.iconst 0, 1) := by decide +kernel
theorem dX4_stockInPlaces_33 : decode cX4_stockInPlaces 33 = .ok (.istore_n 3, 1) := by decide +kernel
theorem dX4_stockInPlaces_34 : decode cX4_stockInPlaces 34 = .ok (.iload_n 3, 1) := by decide +kernel
theorem dX4_stockInPlaces_35 : decode cX4_stockInPlaces 35 = .ok (.iconst 3, 1) := by decide +kernel
theorem dX4_stockInPlaces_36 : decode cX4_stockInPlaces 36 = .ok (.if_icmp .ge 26, 3) := by decide +kernel
theorem dX4_stockInPlaces_39 : decode cX4_stockInPlaces 39 = .ok (.iload_n 2, 1) := by decide +kernel
theorem dX4_stockInPlaces_40 : decode cX4_stockInPlaces 40 = .ok (.aload_n 0, 1) := by decide +kernel
theorem dX4_stockInPlaces_41 : decode cX4_stockInPlaces 41 = .ok (.getfield 21, 3) := by decide +kernel
theorem dX4_stockInPlaces_44 : decode cX4_stockInPlaces 44 = .ok (.iload_n 3, 1) := by decide +kernel
theorem dX4_stockInPlaces_45 : decode cX4_stockInPlaces 45 = .ok (.aaload, 1) := by decide +kernel
theorem dX4_stockInPlaces_46 : decode cX4_stockInPlaces 46 = .ok (.getfield 115, 3) := by decide +kernel
theorem dX4_stockInPlaces_49 : decode cX4_stockInPlaces 49 = .ok (.getfield 125, 3) := by decide +kernel
theorem dX4_stockInPlaces_52 : decode cX4_stockInPlaces 52 = .ok (.iload_n 1, 1) := by decide +kernel
theorem dX4_stockInPlaces_53 : decode cX4_stockInPlaces 53 = .ok (.iaload, 1) := by decide +kernel
theorem dX4_stockInPlaces_54 : decode cX4_stockInPlaces 54 = .ok (.iadd, 1) := by decide +kernel
theorem dX4_stockInPlaces_55 : decode cX4_stockInPlaces 55 = .ok (.istore_n 2, 1) := by decide +kernel
theorem dX4_stockInPlaces_56 : decode cX4_stockInPlaces 56 = .ok (.iinc 3 1, 3) := by decide +kernel
theorem dX4_stockInPlaces_59 : decode cX4_stockInPlaces 59 = .ok (.goto (-25), 3) := by decide +kernel
theorem dX4_stockInPlaces_62 : decode cX4_stockInPlaces 62 = .ok (.iconst 0, 1) := by decide +kernel
theorem dX4_stockInPlaces_63 : decode cX4_stockInPlaces 63 = .ok (.istore_n 3, 1) := by decide +kernel
theorem dX4_stockInPlaces_64 : decode cX4_stockInPlaces 64 = .ok (.iload_n 3, 1) := by decide +kernel
theorem dX4_stockInPlaces_65 : decode cX4_stockInPlaces 65 = .ok (.aload_n 0, 1) := by decide +kernel
theorem dX4_stockInPlaces_66 : decode cX4_stockInPlaces 66 = .ok (.getfield 33, 3) := by decide +kernel
theorem dX4_stockInPlaces_69 : decode cX4_stockInPlaces 69 = .ok (.if_icmp .ge 23, 3) := by decide +kernel
theorem dX4_stockInPlaces_72 : decode cX4_stockInPlaces 72 = .ok (.iload_n 2, 1) := by decide +kernel
theorem dX4_stockInPlaces_73 : decode cX4_stockInPlaces 73 = .ok (.aload_n 0, 1) := by decide +kernel
theorem dX4_stockInPlaces_74 : decode cX4_stockInPlaces 74 = .ok (.getfield 26, 3) := by decide +kernel
theorem dX4_stockInPlaces_77 : decode cX4_stockInPlaces 77 = .ok (.iload_n 3, 1) := by decide +kernel
theorem dX4_stockInPlaces_78 : decode cX4_stockInPlaces 78 = .ok (.aaload, 1) := by decide +kernel
theorem dX4_stockInPlaces_79 : decode cX4_stockInPlaces 79 = .ok (.getfield 125, 3) := by decide +kernel
theorem dX4_stockInPlaces_82 : decode cX4_stockInPlaces 82 = .ok (.iload_n 1, 1) := by decide +kernel
theorem dX4_stockInPlaces_83 : decode cX4_stockInPlaces 83 = .ok (.iaload, 1) := by decide +kernel
theorem dX4_stockInPlaces_84 : decode cX4_stockInPlaces 84 = .ok (.iadd, 1) := by decide +kernel
theorem dX4_stockInPlaces_85 : decode cX4_stockInPlaces 85 = .ok (.istore_n 2, 1) := by decide +kernel
theorem dX4_stockInPlaces_86 : decode cX4_stockInPlaces 86 = .ok (.iinc 3 1, 3) := by decide +kernel
theorem dX4_stockInPlaces_89 : decode cX4_stockInPlaces 89 = .ok (.goto (-25), 3) := by decide +kernel
theorem dX4_stockInPlaces_92 : decode cX4_stockInPlaces 92 = .ok (.iconst 0, 1) := by decide +kernel
theorem dX4_stockInPlaces_93 : decode cX4_stockInPlaces 93 = .ok (.istore_n 3, 1) := by decide +kernel
theorem dX4_stockInPlaces_94 : decode cX4_stockInPlaces 94 = .ok (.iload_n 3, 1) := by decide +kernel
theorem dX4_stockInPlaces_95 : decode cX4_stockInPlaces 95 = .ok (.aload_n 0, 1) := by decide +kernel
theorem dX4_stockInPlaces_96 : decode cX4_stockInPlaces 96 = .ok (.getfield 40, 3) := by decide +kernel
theorem dX4_stockInPlaces_99 : decode cX4_stockInPlaces 99 = .ok (.if_icmp .ge 23, 3) := by decide +kernel
theorem dX4_stockInPlaces_102 : decode cX4_stockInPlaces 102 = .ok (.iload_n 2, 1) := by decide +kernel
theorem dX4_stockInPlaces_103 : decode cX4_stockInPlaces 103 = .ok (.aload_n 0, 1) := by decide +kernel
theorem dX4_stockInPlaces_104 : decode cX4_stockInPlaces 104 = .ok (.getfield 37, 3) := by decide +kernel
theorem dX4_stockInPlaces_107 : decode cX4_stockInPlaces 107 = .ok (.iload_n 3, 1) := by decide +kernel
theorem dX4_stockInPlaces_108 : decode cX4_stockInPlaces 108 = .ok (.aaload, 1) := by decide +kernel
theorem dX4_stockInPlaces_109 : decode cX4_stockInPlaces 109 = .ok (.getfield 125, 3) := by decide +kernel
theorem dX4_stockInPlaces_112 : decode cX4_stockInPlaces 112 = .ok (.iload_n 1, 1) := by decide +kernel
theorem dX4_stockInPlaces_113 : decode cX4_stockInPlaces 113 = .ok (.iaload, 1) := by decide +kernel
theorem dX4_stockInPlaces_114 : decode cX4_stockInPlaces 114 = .ok (.iadd, 1) := by decide +kernel
theorem dX4_stockInPlaces_115 : decode cX4_stockInPlaces 115 = .ok (.istore_n 2, 1) := by decide +kernel
theorem dX4_stockInPlaces_116 : decode cX4_stockInPlaces 116 = .ok (.iinc 3 1, 3) := by decide +kernel
theorem dX4_stockInPlaces_119 : decode cX4_stockInPlaces 119 = .ok (.goto (-25), 3) := by decide +kernel
theorem dX4_stockInPlaces_122 : decode cX4_stockInPlaces 122 = .ok (.iload_n 2, 1) := by decide +kernel
theorem dX4_stockInPlaces_123 : decode cX4_stockInPlaces 123 = .ok (.ireturn, 1) := by decide +kernel
theorem dX4_stockInAccounts_0 : decode cX4_stockInAccounts 0 = .ok (.aload_n 0, 1) := by decide +kernel
theorem dX4_stockInAccounts_1 : decode cX4_stockInAccounts 1 = .ok (.getfield 44, 3) := by decide +kernel
theorem dX4_stockInAccounts_4 : decode cX4_stockInAccounts 4 = .ok (.getfield 125, 3) := by decide +kernel
theorem dX4_stockInAccounts_7 : decode cX4_stockInAccounts 7 = .ok (.iload_n 1, 1) := by decide +kernel
theorem dX4_stockInAccounts_8 : decode cX4_stockInAccounts 8 = .ok (.iaload, 1) := by decide +kernel
theorem dX4_stockInAccounts_9 : decode cX4_stockInAccounts 9 = .ok (.aload_n 0, 1) := by decide +kernel
theorem dX4_stockInAccounts_10 : decode cX4_stockInAccounts 10 = .ok (.getfield 48, 3) := by decide +kernel
theorem dX4_stockInAccounts_13 : decode cX4_stockInAccounts 13 = .ok (.getfield 125, 3) := by decide +kernel
theorem dX4_stockInAccounts_16 : decode cX4_stockInAccounts 16 = .ok (.iload_n 1, 1) := by decide +kernel
theorem dX4_stockInAccounts_17 : decode cX4_stockInAccounts 17 = .ok (.iaload, 1) := by decide +kernel
theorem dX4_stockInAccounts_18 : decode cX4_stockInAccounts 18 = .ok (.isub, 1) := by decide +kernel
theorem dX4_stockInAccounts_19 : decode cX4_stockInAccounts 19 = .ok (.ireturn, 1) := by decide +kernel
theorem dX5_init_0 : decode cX5_init 0 = .ok (.aload_n 0, 1) := by decide +kernel
theorem dX5_init_1 : decode cX5_init 1 = .ok (.invokespecial 3, 3) := by decide +kernel
theorem dX5_init_4 : decode cX5_init 4 = .ok (.aload_n 0, 1) := by decide +kernel
theorem dX5_init_5 : decode cX5_init 5 = .ok (.bipush 60, 2) := by decide +kernel
theorem dX5_init_7 : decode cX5_init 7 = .ok (.newarray .char, 2) := by decide +kernel
theorem dX5_init_9 : decode cX5_init 9 = .ok (.putfield 9, 3) := by decide +kernel
theorem dX5_init_12 : decode cX5_init 12 = .ok (.aload_n 0, 1) := by decide +kernel
theorem dX5_init_13 : decode cX5_init 13 = .ok (.iconst 0, 1) := by decide +kernel
theorem dX5_init_14 : decode cX5_init 14 = .ok (.putfield 15, 3) := by decide +kernel
theorem dX5_init_17 : decode cX5_init 17 = .ok (.aload_n 0, 1) := by decide +kernel
theorem dX5_init_18 : decode cX5_init 18 = .ok (.iconst 0, 1) := by decide +kernel
theorem dX5_init_19 : decode cX5_init 19 = .ok (.putfield 19, 3) := by decide +kernel
theorem dX5_init_22 : decode cX5_init 22 = .ok (.aload_n 0, 1) := by decide +kernel
theorem dX5_init_23 : decode cX5_init 23 = .ok (.bipush 60, 2) := by decide +kernel
theorem dX5_init_25 : decode cX5_init 25 = .ok (.anewarray 22, 3) := by decide +kernel
theorem dX5_init_28 : decode cX5_init 28 = .ok (.putfield 24, 3) := by decide +kernel
theorem dX5_init_31 : decode cX5_init 31 = .ok (.aload_n 0, 1) := by decide +kernel
theorem dX5_init_32 : decode cX5_init 32 = .ok (.bipush 60, 2) := by decide +kernel
theorem dX5_init_34 : decode cX5_init 34 = .ok (.iconst 3, 1) := by decide +kernel
theorem dX5_init_35 : decode cX5_init 35 = .ok (.multianewarray 28 2, 4) := by decide +kernel
theorem dX5_init_39 : decode cX5_init 39 = .ok (.putfield 30, 3) := by decide +kernel
theorem dX5_init_42 : decode cX5_init 42 = .ok (.aload_n 0, 1) := by decide +kernel
theorem dX5_init_43 : decode cX5_init 43 = .ok (.iconst 0, 1) := by decide +kernel
theorem dX5_init_44 : decode cX5_init 44 = .ok (.putfield 33, 3) := by decide +kernel
theorem dX5_init_47 : decode cX5_init 47 = .ok (.return_, 1) := by decide +kernel
theorem dX5_append_0 : decode cX5_append 0 = .ok (.aload_n 0, 1) := by decide +kernel
theorem dX5_append_1 : decode cX5_append 1 = .ok (.getfield 15, 3) := by decide +kernel
theorem dX5_append_4 : decode cX5_append 4 = .ok (.bipush 60, 2) := by decide +kernel
theorem dX5_append_6 : decode cX5_append 6 = .ok (.if_icmp .lt 5, 3) := by decide +kernel
theorem dX5_append_9 : decode cX5_append 9 = .ok (.iconst 0, 1) := by decide +kernel
theorem dX5_append_10 : decode cX5_append 10 = .ok (.ireturn, 1) := by decide +kernel
theorem dX5_append_11 : decode cX5_append 11 = .ok (.aload_n 0, 1) := by decide +kernel
theorem dX5_append_12 : decode cX5_append 12 = .ok (.getfield 9, 3) := by decide +kernel
theorem dX5_append_15 : decode cX5_append 15 = .ok (.aload_n 0, 1) := by decide +kernel
theorem dX5_append_16 : decode cX5_append 16 = .ok (.getfield 15, 3) := by decide +kernel
theorem dX5_append_19 : decode cX5_append 19 = .ok (.iload_n 1, 1) := by decide +kernel
theorem dX5_append_20 : decode cX5_append 20 = .ok (.castore, 1) := by decide +kernel
theorem dX5_append_21 : decode cX5_append 21 = .ok (.aload_n 0, 1) := by decide +kernel
theorem dX5_append_22 : decode cX5_append 22 = .ok (.dup, 1) := by decide +kernel
theorem dX5_append_23 : decode cX5_append 23 = .ok (.getfield 15, 3) := by decide +kernel
theorem dX5_append_26 : decode cX5_append 26 = .ok (.iconst 1, 1) := by decide +kernel
theorem dX5_append_27 : decode cX5_append 27 = .ok (.iadd, 1) := by decide +kernel
theorem dX5_append_28 : decode cX5_append 28 = .ok (.putfield 15, 3) := by decide +kernel
theorem dX5_append_31 : decode cX5_append 31 = .ok (.iconst 1, 1) := by decide +kernel
theorem dX5_append_32 : decode cX5_append 32 = .ok (.ireturn, 1) := by decide +kernel
theorem dX5_empty_0 : decode cX5_empty 0 = .ok (.aload_n 0, 1) := by decide +kernel
theorem dX5_empty_1 : decode cX5_empty 1 = .ok (.iconst 0, 1) := by decide +kernel
theorem dX5_empty_2 : decode cX5_empty 2 = .ok (.putfield 15, 3) := by decide +kernel
theorem dX5_empty_5 : decode cX5_empty 5 = .ok (.return_, 1) := by decide +kernel
theorem dX5_parse_0 : decode cX5_parse 0 = .ok (.aload_n 0, 1) := by decide +kernel
theorem dX5_parse_1 : decode cX5_parse 1 = .ok (.iconst 0, 1) := by decide +kernel
theorem dX5_parse_2 : decode cX5_parse 2 = .ok (.putfield 19, 3) := by decide +kernel
theorem dX5_parse_5 : decode cX5_parse 5 = .ok (.aload_n 0, 1) := by decide +kernel
theorem dX5_parse_6 : decode cX5_parse 6 = .ok (.iconst 0, 1) := by decide +kernel
theorem dX5_parse_7 : decode cX5_parse 7 = .ok (.putfield 33, 3) := by decide +kernel
theorem dX5_parse_10 : decode cX5_parse 10 = .ok (.iconst 0, 1) := by decide +kernel
theorem dX5_parse_11 : decode cX5_parse 11 = .ok (.istore_n 1, 1) := by decide +kernel
theorem dX5_parse_12 : decode cX5_parse 12 = .ok (.iload_n 1, 1) := by decide +kernel
theorem dX5_parse_13 : decode cX5_parse 13 = .ok (.bipush 60, 2) := by decide +kernel
theorem dX5_parse_15 : decode cX5_parse 15 = .ok (.if_icmp .ge 56, 3) := by decide +kernel
theorem dX5_parse_18 : decode cX5_parse 18 = .ok (.aload_n 0, 1) := by decide +kernel
theorem dX5_parse_19 : decode cX5_parse 19 = .ok (.iload_n 1, 1) := by decide +kernel
theorem dX5_parse_20 : decode cX5_parse 20 = .ok (.invokevirtual 36, 3) := by decide +kernel
theorem dX5_parse_23 : decode cX5_parse 23 = .ok (.ifCond .ne 8, 3) := by decide +kernel
theorem dX5_parse_26 : decode cX5_parse 26 = .ok (.aload_n 0, 1) := by decide +kernel
theorem dX5_parse_27 : decode cX5_parse 27 = .ok (.getfield 19, 3) := by decide +kernel
theorem dX5_parse_30 : decode cX5_parse 30 = .ok (.ireturn, 1) := by decide +kernel
theorem dX5_parse_31 : decode cX5_parse 31 = .ok (.aload_n 0, 1) := by decide +kernel
theorem dX5_parse_32 : decode cX5_parse 32 = .ok (.iload_n 1, 1) := by decide +kernel
theorem dX5_parse_33 : decode cX5_parse 33 = .ok (.iconst 1, 1) := by decide +kernel
theorem dX5_parse_34 : decode cX5_parse 34 = .ok (.iadd, 1) := by decide +kernel
theorem dX5_parse_35 : decode cX5_parse 35 = .ok (.putfield 33, 3) := by decide +kernel
theorem dX5_parse_38 : decode cX5_parse 38 = .ok (.aload_n 0, 1) := by decide +kernel
theorem dX5_parse_39 : decode cX5_parse 39 = .ok (.getfield 19, 3) := by decide +kernel
theorem dX5_parse_42 : decode cX5_parse 42 = .ok (.aload_n 0, 1) := by decide +kernel
theorem dX5_parse_43 : decode cX5_parse 43 = .ok (.getfield 15, 3) := by decide +kernel
theorem dX5_parse_46 : decode cX5_parse 46 = .ok (.if_icmp .lt 5, 3) := by decide +kernel
theorem dX5_parse_49 : decode cX5_parse 49 = .ok (.iconst (-1), 1) := by decide +kernel
theorem dX5_parse_50 : decode cX5_parse 50 = .ok (.ireturn, 1) := by decide +kernel
theorem dX5_parse_51 : decode cX5_parse 51 = .ok (.aload_n 0, 1) := by decide +kernel
theorem dX5_parse_52 : decode cX5_parse 52 = .ok (.bipush 59, 2) := by decide +kernel
theorem dX5_parse_54 : decode cX5_parse 54 = .ok (.invokevirtual 40, 3) := by decide +kernel
theorem dX5_parse_57 : decode cX5_parse 57 = .ok (.ifCond .ne 8, 3) := by decide +kernel
theorem dX5_parse_60 : decode cX5_parse 60 = .ok (.aload_n 0, 1) := by decide +kernel
theorem dX5_parse_61 : decode cX5_parse 61 = .ok (.getfield 19, 3) := by decide +kernel
theorem dX5_parse_64 : decode cX5_parse 64 = .ok (.ireturn, 1) := by decide +kernel
theorem dX5_parse_65 : decode cX5_parse 65 = .ok (.iinc 1 1, 3) := by decide +kernel
theorem dX5_parse_68 : decode cX5_parse 68 = .ok (.goto (-56), 3) := by decide +kernel
theorem dX5_parse_71 : decode cX5_parse 71 = .ok (.aload_n 0, 1) := by decide +kernel
theorem dX5_parse_72 : decode cX5_parse 72 = .ok (.getfield 19, 3) := by decide +kernel
theorem dX5_parse_75 : decode cX5_parse 75 = .ok (.ireturn, 1) := by decide +kernel
theorem dX5_readCommand_0 : decode cX5_readCommand 0 = .ok (.aload_n 0, 1) := by decide +kernel
theorem dX5_readCommand_1 : decode cX5_readCommand 1 = .ok (.invokevirtual 44, 3) := by decide +kernel
theorem dX5_readCommand_4 : decode cX5_readCommand 4 = .ok (.astore_n 2, 1) := by decide +kernel
theorem dX5_readCommand_5 : decode cX5_readCommand 5 = .ok (.aload_n 2, 1) := by decide +kernel
theorem dX5_readCommand_6 : decode cX5_readCommand 6 = .ok (.ifnull 20, 3) := by decide +kernel
theorem dX5_readCommand_9 : decode cX5_readCommand 9 = .ok (.aload_n 0, 1) := by decide +kernel
theorem dX5_readCommand_10 : decode cX5_readCommand 10 = .ok (.aload_n 2, 1) := by decide +kernel
theorem dX5_readCommand_11 : decode cX5_readCommand 11 = .ok (.getfield 48, 3) := by decide +kernel
theorem dX5_readCommand_14 : decode cX5_readCommand 14 = .ok (.aload_n 0, 1) := by decide +kernel
theorem dX5_readCommand_15 : decode cX5_readCommand 15 = .ok (.getfield 30, 3) := by decide +kernel
theorem dX5_readCommand_18 : decode cX5_readCommand 18 = .ok (.iload_n 1, 1) := by decide +kernel
theorem dX5_readCommand_19 : decode cX5_readCommand 19 = .ok (.aaload, 1) := by decide +kernel
theorem dX5_readCommand_20 : decode cX5_readCommand 20 = .ok (.invokevirtual 52, 3) := by decide +kernel
theorem dX5_readCommand_23 : decode cX5_readCommand 23 = .ok (.ifCond .ne 5, 3) := by decide +kernel
theorem dX5_readCommand_26 : decode cX5_readCommand 26 = .ok (.iconst 0, 1) := by decide +kernel
theorem dX5_readCommand_27 : decode cX5_readCommand 27 = .ok (.ireturn, 1) := by decide +kernel
theorem dX5_readCommand_28 : decode cX5_readCommand 28 = .ok (.aload_n 0, 1) := by decide +kernel
theorem dX5_readCommand_29 : decode cX5_readCommand 29 = .ok (.getfield 24, 3) := by decide +kernel
theorem dX5_readCommand_32 : decode cX5_readCommand 32 = .ok (.iload_n 1, 1) := by decide +kernel
theorem dX5_readCommand_33 : decode cX5_readCommand 33 = .ok (.aload_n 2, 1) := by decide +kernel
theorem dX5_readCommand_34 : decode cX5_readCommand 34 = .ok (.aastore, 1) := by decide +kernel
theorem dX5_readCommand_35 : decode cX5_readCommand 35 = .ok (.iconst 1, 1) := by decide +kernel
theorem dX5_readCommand_36 : decode cX5_readCommand 36 = .ok (.ireturn, 1) := by decide +kernel
theorem dX5_readWord_0 : decode cX5_readWord 0 = .ok (.iconst 0, 1) := by decide +kernel
theorem dX5_readWord_1 : decode cX5_readWord 1 = .ok (.istore_n 1, 1) := by decide +kernel
theorem dX5_readWord_2 : decode cX5_readWord 2 = .ok (.iconst 0, 1) := by decide +kernel
theorem dX5_readWord_3 : decode cX5_readWord 3 = .ok (.istore_n 2, 1) := by decide +kernel
theorem dX5_readWord_4 : decode cX5_readWord 4 = .ok (.iload_n 2, 1) := by decide +kernel
theorem dX5_readWord_5 : decode cX5_readWord 5 = .ok (.getstatic 56, 3) := by decide +kernel
theorem dX5_readWord_8 : decode cX5_readWord 8 = .ok (.arraylength, 1) := by decide +kernel
theorem dX5_readWord_9 : decode cX5_readWord 9 = .ok (.if_icmp .ge 57, 3) := by decide +kernel
theorem dX5_readWord_12 : decode cX5_readWord 12 = .ok (.getstatic 56, 3) := by decide +kernel
theorem dX5_readWord_15 : decode cX5_readWord 15 = .ok (.iload_n 2, 1) := by decide +kernel
theorem dX5_readWord_16 : decode cX5_readWord 16 = .ok (.aaload, 1) := by decide +kernel
theorem dX5_readWord_17 : decode cX5_readWord 17 = .ok (.astore_n 3, 1) := by decide +kernel
theorem dX5_readWord_18 : decode cX5_readWord 18 = .ok (.aload_n 0, 1) := by decide +kernel
theorem dX5_readWord_19 : decode cX5_readWord 19 = .ok (.aload_n 3, 1) := by decide +kernel
theorem dX5_readWord_20 : decode cX5_readWord 20 = .ok (.getfield 59, 3) := by decide +kernel
theorem dX5_readWord_23 : decode cX5_readWord 23 = .ok (.invokevirtual 62, 3) := by decide +kernel
theorem dX5_readWord_26 : decode cX5_readWord 26 = .ok (.istore 4, 2) := by decide +kernel
theorem dX5_readWord_28 : decode cX5_readWord 28 = .ok (.iload 4, 2) := by decide +kernel
theorem dX5_readWord_30 : decode cX5_readWord 30 = .ok (.aload_n 3, 1) := by decide +kernel
theorem dX5_readWord_31 : decode cX5_readWord 31 = .ok (.getfield 59, 3) := by decide +kernel
theorem dX5_readWord_34 : decode cX5_readWord 34 = .ok (.invokevirtual 66, 3) := by decide +kernel
theorem dX5_readWord_37 : decode cX5_readWord 37 = .ok (.if_icmp .ne 16, 3) := by decide +kernel
theorem dX5_readWord_40 : decode cX5_readWord 40 = .ok (.aload_n 0, 1) := by decide +kernel
theorem dX5_readWord_41 : decode cX5_readWord 41 = .ok (.dup, 1) := by decide +kernel
theorem dX5_readWord_42 : decode cX5_readWord 42 = .ok (.getfield 19, 3) := by decide +kernel
theorem dX5_readWord_45 : decode cX5_readWord 45 = .ok (.iload 4, 2) := by decide +kernel
theorem dX5_readWord_47 : decode cX5_readWord 47 = .ok (.iadd, 1) := by decide +kernel
theorem dX5_readWord_48 : decode cX5_readWord 48 = .ok (.putfield 19, 3) := by decide +kernel
theorem dX5_readWord_51 : decode cX5_readWord 51 = .ok (.aload_n 3, 1) := by decide +kernel
theorem dX5_readWord_52 : decode cX5_readWord 52 = .ok (.areturn, 1) := by decide +kernel
theorem dX5_readWord_53 : decode cX5_readWord 53 = .ok (.iload_n 1, 1) := by decide +kernel
theorem dX5_readWord_54 : decode cX5_readWord 54 = .ok (.iload 4, 2) := by decide +kernel
theorem dX5_readWord_56 : decode cX5_readWord 56 = .ok (.invokestatic 71, 3) := by decide +kernel
theorem dX5_readWord_59 : decode cX5_readWord 59 = .ok (.istore_n 1, 1) := by decide +kernel
theorem dX5_readWord_60 : decode cX5_readWord 60 = .ok (.iinc 2 1, 3) := by decide +kernel
theorem dX5_readWord_63 : decode cX5_readWord 63 = .ok (.goto (-59), 3) := by decide +kernel
theorem dX5_readWord_66 : decode cX5_readWord 66 = .ok (.aload_n 0, 1) := by decide +kernel
theorem dX5_readWord_67 : decode cX5_readWord 67 = .ok (.dup, 1) := by decide +kernel
theorem dX5_readWord_68 : decode cX5_readWord 68 = .ok (.getfield 19, 3) := by decide +kernel
theorem dX5_readWord_71 : decode cX5_readWord 71 = .ok (.iload_n 1, 1) := by decide +kernel
theorem dX5_readWord_72 : decode cX5_readWord 72 = .ok (.iadd, 1) := by decide +kernel
theorem dX5_readWord_73 : decode cX5_readWord 73 = .ok (.putfield 19, 3) := by decide +kernel
theorem dX5_readWord_76 : decode cX5_readWord 76 = .ok (.aconst_null, 1) := by decide +kernel
theorem dX5_readWord_77 : decode cX5_readWord 77 = .ok (.areturn, 1) := by decide +kernel
theorem dX5_matchedLength_0 : decode cX5_matchedLength 0 = .ok (.iconst 0, 1) := by decide +kernel
theorem dX5_matchedLength_1 : decode cX5_matchedLength 1 = .ok (.istore_n 2, 1) := by decide +kernel
theorem dX5_matchedLength_2 : decode cX5_matchedLength 2 = .ok (.iload_n 2, 1) := by decide +kernel
theorem dX5_matchedLength_3 : decode cX5_matchedLength 3 = .ok (.aload_n 1, 1) := by decide +kernel
theorem dX5_matchedLength_4 : decode cX5_matchedLength 4 = .ok (.invokevirtual 66, 3) := by decide +kernel
theorem dX5_matchedLength_7 : decode cX5_matchedLength 7 = .ok (.if_icmp .ge 41, 3) := by decide +kernel
theorem dX5_matchedLength_10 : decode cX5_matchedLength 10 = .ok (.aload_n 0, 1) := by decide +kernel
theorem dX5_matchedLength_11 : decode cX5_matchedLength 11 = .ok (.getfield 19, 3) := by decide +kernel
theorem dX5_matchedLength_14 : decode cX5_matchedLength 14 = .ok (.iload_n 2, 1) := by decide +kernel
theorem dX5_matchedLength_15 : decode cX5_matchedLength 15 = .ok (.iadd, 1) := by decide +kernel
theorem dX5_matchedLength_16 : decode cX5_matchedLength 16 = .ok (.aload_n 0, 1) := by decide +kernel
theorem dX5_matchedLength_17 : decode cX5_matchedLength 17 = .ok (.getfield 15, 3) := by decide +kernel
theorem dX5_matchedLength_20 : decode cX5_matchedLength 20 = .ok (.if_icmp .ge 28, 3) := by decide +kernel
theorem dX5_matchedLength_23 : decode cX5_matchedLength 23 = .ok (.aload_n 0, 1) := by decide +kernel
theorem dX5_matchedLength_24 : decode cX5_matchedLength 24 = .ok (.getfield 9, 3) := by decide +kernel
theorem dX5_matchedLength_27 : decode cX5_matchedLength 27 = .ok (.aload_n 0, 1) := by decide +kernel
theorem dX5_matchedLength_28 : decode cX5_matchedLength 28 = .ok (.getfield 19, 3) := by decide +kernel
theorem dX5_matchedLength_31 : decode cX5_matchedLength 31 = .ok (.iload_n 2, 1) := by decide +kernel
theorem dX5_matchedLength_32 : decode cX5_matchedLength 32 = .ok (.iadd, 1) := by decide +kernel
theorem dX5_matchedLength_33 : decode cX5_matchedLength 33 = .ok (.caload, 1) := by decide +kernel
theorem dX5_matchedLength_34 : decode cX5_matchedLength 34 = .ok (.aload_n 1, 1) := by decide +kernel
theorem dX5_matchedLength_35 : decode cX5_matchedLength 35 = .ok (.iload_n 2, 1) := by decide +kernel
theorem dX5_matchedLength_36 : decode cX5_matchedLength 36 = .ok (.invokevirtual 77, 3) := by decide +kernel
theorem dX5_matchedLength_39 : decode cX5_matchedLength 39 = .ok (.if_icmp .ne 9, 3) := by decide +kernel
theorem dX5_matchedLength_42 : decode cX5_matchedLength 42 = .ok (.iinc 2 1, 3) := by decide +kernel
theorem dX5_matchedLength_45 : decode cX5_matchedLength 45 = .ok (.goto (-43), 3) := by decide +kernel
theorem dX5_matchedLength_48 : decode cX5_matchedLength 48 = .ok (.iload_n 2, 1) := by decide +kernel
theorem dX5_matchedLength_49 : decode cX5_matchedLength 49 = .ok (.ireturn, 1) := by decide +kernel
theorem dX5_readArguments_0 : decode cX5_readArguments 0 = .ok (.iconst 0, 1) := by decide +kernel
theorem dX5_readArguments_1 : decode cX5_readArguments 1 = .ok (.istore_n 3, 1) := by decide +kernel
theorem dX5_readArguments_2 : decode cX5_readArguments 2 = .ok (.iconst 0, 1) := by decide +kernel
theorem dX5_readArguments_3 : decode cX5_readArguments 3 = .ok (.istore 4, 2) := by decide +kernel
theorem dX5_readArguments_5 : decode cX5_readArguments 5 = .ok (.iload 4, 2) := by decide +kernel
theorem dX5_readArguments_7 : decode cX5_readArguments 7 = .ok (.aload_n 1, 1) := by decide +kernel
theorem dX5_readArguments_8 : decode cX5_readArguments 8 = .ok (.invokevirtual 66, 3) := by decide +kernel
theorem dX5_readArguments_11 : decode cX5_readArguments 11 = .ok (.if_icmp .ge 65, 3) := by decide +kernel
theorem dX5_readArguments_14 : decode cX5_readArguments 14 = .ok (.aload_n 1, 1) := by decide +kernel
theorem dX5_readArguments_15 : decode cX5_readArguments 15 = .ok (.iload 4, 2) := by decide +kernel
theorem dX5_readArguments_17 : decode cX5_readArguments 17 = .ok (.invokevirtual 77, 3) := by decide +kernel
theorem dX5_readArguments_20 : decode cX5_readArguments 20 = .ok (.istore 5, 2) := by decide +kernel
theorem dX5_readArguments_22 : decode cX5_readArguments 22 = .ok (.iload 5, 2) := by decide +kernel
theorem dX5_readArguments_24 : decode cX5_readArguments 24 = .ok (.bipush 32, 2) := by decide +kernel
theorem dX5_readArguments_26 : decode cX5_readArguments 26 = .ok (.if_icmp .ne 14, 3) := by decide +kernel
theorem dX5_readArguments_29 : decode cX5_readArguments 29 = .ok (.aload_n 0, 1) := by decide +kernel
theorem dX5_readArguments_30 : decode cX5_readArguments 30 = .ok (.bipush 32, 2) := by decide +kernel
theorem dX5_readArguments_32 : decode cX5_readArguments 32 = .ok (.invokevirtual 40, 3) := by decide +kernel
theorem dX5_readArguments_35 : decode cX5_readArguments 35 = .ok (.ifCond .ne 35, 3) := by decide +kernel
theorem dX5_readArguments_38 : decode cX5_readArguments 38 = .ok (.iconst 0, 1) := by decide +kernel
theorem dX5_readArguments_39 : decode cX5_readArguments 39 = .ok (.ireturn, 1) := by decide +kernel
theorem dX5_readArguments_40 : decode cX5_readArguments 40 = .ok (.aload_n 0, 1) := by decide +kernel
theorem dX5_readArguments_41 : decode cX5_readArguments 41 = .ok (.iload 5, 2) := by decide +kernel
theorem dX5_readArguments_43 : decode cX5_readArguments 43 = .ok (.invokevirtual 81, 3) := by decide +kernel
theorem dX5_readArguments_46 : decode cX5_readArguments 46 = .ok (.istore 6, 2) := by decide +kernel
theorem dX5_readArguments_48 : decode cX5_readArguments 48 = .ok (.iload 6, 2) := by decide +kernel
theorem dX5_readArguments_50 : decode cX5_readArguments 50 = .ok (.iconst (-1), 1) := by decide +kernel
theorem dX5_readArguments_51 : decode cX5_readArguments 51 = .ok (.if_icmp .eq 9, 3) := by decide +kernel
theorem dX5_readArguments_54 : decode cX5_readArguments 54 = .ok (.iload_n 3, 1) := by decide +kernel
theorem dX5_readArguments_55 : decode cX5_readArguments 55 = .ok (.aload_n 2, 1) := by decide +kernel
theorem dX5_readArguments_56 : decode cX5_readArguments 56 = .ok (.arraylength, 1) := by decide +kernel
theorem dX5_readArguments_57 : decode cX5_readArguments 57 = .ok (.if_icmp .lt 5, 3) := by decide +kernel
theorem dX5_readArguments_60 : decode cX5_readArguments 60 = .ok (.iconst 0, 1) := by decide +kernel
theorem dX5_readArguments_61 : decode cX5_readArguments 61 = .ok (.ireturn, 1) := by decide +kernel
theorem dX5_readArguments_62 : decode cX5_readArguments 62 = .ok (.aload_n 2, 1) := by decide +kernel
theorem dX5_readArguments_63 : decode cX5_readArguments 63 = .ok (.iload_n 3, 1) := by decide +kernel
theorem dX5_readArguments_64 : decode cX5_readArguments 64 = .ok (.iload 6, 2) := by decide +kernel
theorem dX5_readArguments_66 : decode cX5_readArguments 66 = .ok (.iastore, 1) := by decide +kernel
theorem dX5_readArguments_67 : decode cX5_readArguments 67 = .ok (.iinc 3 1, 3) := by decide +kernel
theorem dX5_readArguments_70 : decode cX5_readArguments 70 = .ok (.iinc 4 1, 3) := by decide +kernel
theorem dX5_readArguments_73 : decode cX5_readArguments 73 = .ok (.goto (-68), 3) := by decide +kernel
theorem dX5_readArguments_76 : decode cX5_readArguments 76 = .ok (.iconst 1, 1) := by decide +kernel
theorem dX5_readArguments_77 : decode cX5_readArguments 77 = .ok (.ireturn, 1) := by decide +kernel
theorem dX5_readValue_0 : decode cX5_readValue 0 = .ok (.iload_n 1, 1) := by decide +kernel
theorem dX5_readValue_1 : decode cX5_readValue 1 = .ok (.bipush 109, 2) := by decide +kernel
theorem dX5_readValue_3 : decode cX5_readValue 3 = .ok (.if_icmp .ne 8, 3) := by decide +kernel
theorem dX5_readValue_6 : decode cX5_readValue 6 = .ok (.aload_n 0, 1) := by decide +kernel
theorem dX5_readValue_7 : decode cX5_readValue 7 = .ok (.invokevirtual 85, 3) := by decide +kernel
theorem dX5_readValue_10 : decode cX5_readValue 10 = .ok (.ireturn, 1) := by decide +kernel
theorem dX5_readValue_11 : decode cX5_readValue 11 = .ok (.aload_n 0, 1) := by decide +kernel
theorem dX5_readValue_12 : decode cX5_readValue 12 = .ok (.iload_n 1, 1) := by decide +kernel
theorem dX5_readValue_13 : decode cX5_readValue 13 = .ok (.bipush 100, 2) := by decide +kernel
theorem dX5_readValue_15 : decode cX5_readValue 15 = .ok (.if_icmp .ne 7, 3) := by decide +kernel
theorem dX5_readValue_18 : decode cX5_readValue 18 = .ok (.iconst 1, 1) := by decide +kernel
theorem dX5_readValue_19 : decode cX5_readValue 19 = .ok (.goto 4, 3) := by decide +kernel
theorem dX5_readValue_22 : decode cX5_readValue 22 = .ok (.iconst 3, 1) := by decide +kernel
theorem dX5_readValue_23 : decode cX5_readValue 23 = .ok (.invokevirtual 88, 3) := by decide +kernel
theorem dX5_readValue_26 : decode cX5_readValue 26 = .ok (.ireturn, 1) := by decide +kernel
theorem dX5_readSign_0 : decode cX5_readSign 0 = .ok (.aload_n 0, 1) := by decide +kernel
theorem dX5_readSign_1 : decode cX5_readSign 1 = .ok (.getfield 19, 3) := by decide +kernel
theorem dX5_readSign_4 : decode cX5_readSign 4 = .ok (.aload_n 0, 1) := by decide +kernel
theorem dX5_readSign_5 : decode cX5_readSign 5 = .ok (.getfield 15, 3) := by decide +kernel
theorem dX5_readSign_8 : decode cX5_readSign 8 = .ok (.if_icmp .ge 16, 3) := by decide +kernel
theorem dX5_readSign_11 : decode cX5_readSign 11 = .ok (.aload_n 0, 1) := by decide +kernel
theorem dX5_readSign_12 : decode cX5_readSign 12 = .ok (.getfield 9, 3) := by decide +kernel
theorem dX5_readSign_15 : decode cX5_readSign 15 = .ok (.aload_n 0, 1) := by decide +kernel
theorem dX5_readSign_16 : decode cX5_readSign 16 = .ok (.getfield 19, 3) := by decide +kernel
theorem dX5_readSign_19 : decode cX5_readSign 19 = .ok (.caload, 1) := by decide +kernel
theorem dX5_readSign_20 : decode cX5_readSign 20 = .ok (.iload_n 1, 1) := by decide +kernel
theorem dX5_readSign_21 : decode cX5_readSign 21 = .ok (.if_icmp .eq 5, 3) := by decide +kernel
theorem dX5_readSign_24 : decode cX5_readSign 24 = .ok (.iconst 0, 1) := by decide +kernel
theorem dX5_readSign_25 : decode cX5_readSign 25 = .ok (.ireturn, 1) := by decide +kernel
theorem dX5_readSign_26 : decode cX5_readSign 26 = .ok (.aload_n 0, 1) := by decide +kernel
theorem dX5_readSign_27 : decode cX5_readSign 27 = .ok (.dup, 1) := by decide +kernel
theorem dX5_readSign_28 : decode cX5_readSign 28 = .ok (.getfield 19, 3) := by decide +kernel
theorem dX5_readSign_31 : decode cX5_readSign 31 = .ok (.iconst 1, 1) := by decide +kernel
theorem dX5_readSign_32 : decode cX5_readSign 32 = .ok (.iadd, 1) := by decide +kernel
theorem dX5_readSign_33 : decode cX5_readSign 33 = .ok (.putfield 19, 3) := by decide +kernel
theorem dX5_readSign_36 : decode cX5_readSign 36 = .ok (.iconst 1, 1) := by decide +kernel
theorem dX5_readSign_37 : decode cX5_readSign 37 = .ok (.ireturn, 1) := by decide +kernel
theorem dX5_readMaterial_0 : decode cX5_readMaterial 0 = .ok (.aload_n 0, 1) := by decide +kernel
theorem dX5_readMaterial_1 : decode cX5_readMaterial 1 = .ok (.getfield 19, 3) := by decide +kernel
theorem dX5_readMaterial_4 : decode cX5_readMaterial 4 = .ok (.aload_n 0, 1) := by decide +kernel
theorem dX5_readMaterial_5 : decode cX5_readMaterial 5 = .ok (.getfield 15, 3) := by decide +kernel
theorem dX5_readMaterial_8 : decode cX5_readMaterial 8 = .ok (.if_icmp .ge 19, 3) := by decide +kernel
theorem dX5_readMaterial_11 : decode cX5_readMaterial 11 = .ok (.aload_n 0, 1) := by decide +kernel
theorem dX5_readMaterial_12 : decode cX5_readMaterial 12 = .ok (.getfield 9, 3) := by decide +kernel
theorem dX5_readMaterial_15 : decode cX5_readMaterial 15 = .ok (.aload_n 0, 1) := by decide +kernel
theorem dX5_readMaterial_16 : decode cX5_readMaterial 16 = .ok (.getfield 19, 3) := by decide +kernel
theorem dX5_readMaterial_19 : decode cX5_readMaterial 19 = .ok (.caload, 1) := by decide +kernel
theorem dX5_readMaterial_20 : decode cX5_readMaterial 20 = .ok (.invokestatic 92, 3) := by decide +kernel
theorem dX5_readMaterial_23 : decode cX5_readMaterial 23 = .ok (.iconst (-1), 1) := by decide +kernel
theorem dX5_readMaterial_24 : decode cX5_readMaterial 24 = .ok (.if_icmp .ne 5, 3) := by decide +kernel
theorem dX5_readMaterial_27 : decode cX5_readMaterial 27 = .ok (.iconst (-1), 1) := by decide +kernel
theorem dX5_readMaterial_28 : decode cX5_readMaterial 28 = .ok (.ireturn, 1) := by decide +kernel
theorem dX5_readMaterial_29 : decode cX5_readMaterial 29 = .ok (.aload_n 0, 1) := by decide +kernel
theorem dX5_readMaterial_30 : decode cX5_readMaterial 30 = .ok (.dup, 1) := by decide +kernel
theorem dX5_readMaterial_31 : decode cX5_readMaterial 31 = .ok (.getfield 19, 3) := by decide +kernel
theorem dX5_readMaterial_34 : decode cX5_readMaterial 34 = .ok (.iconst 1, 1) := by decide +kernel
theorem dX5_readMaterial_35 : decode cX5_readMaterial 35 = .ok (.iadd, 1) := by decide +kernel
theorem dX5_readMaterial_36 : decode cX5_readMaterial 36 = .ok (.putfield 19, 3) := by decide +kernel
theorem dX5_readMaterial_39 : decode cX5_readMaterial 39 = .ok (.aload_n 0, 1) := by decide +kernel
theorem dX5_readMaterial_40 : decode cX5_readMaterial 40 = .ok (.getfield 9, 3) := by decide +kernel
theorem dX5_readMaterial_43 : decode cX5_readMaterial 43 = .ok (.aload_n 0, 1) := by decide +kernel
theorem dX5_readMaterial_44 : decode cX5_readMaterial 44 = .ok (.getfield 19, 3) := by decide +kernel
theorem dX5_readMaterial_47 : decode cX5_readMaterial 47 = .ok (.iconst 1, 1) := by decide +kernel
theorem dX5_readMaterial_48 : decode cX5_readMaterial 48 = .ok (.isub, 1) := by decide +kernel
theorem dX5_readMaterial_49 : decode cX5_readMaterial 49 = .ok (.caload, 1) := by decide +kernel
theorem dX5_readMaterial_50 : decode cX5_readMaterial 50 = .ok (.ireturn, 1) := by decide +kernel
theorem dX5_readNumber_0 : decode cX5_readNumber 0 = .ok (.iconst (-1), 1) := by decide +kernel
theorem dX5_readNumber_1 : decode cX5_readNumber 1 = .ok (.istore_n 2, 1) := by decide +kernel
theorem dX5_readNumber_2 : decode cX5_readNumber 2 = .ok (.iconst 0, 1) := by decide +kernel
theorem dX5_readNumber_3 : decode cX5_readNumber 3 = .ok (.istore_n 3, 1) := by decide +kernel
theorem dX5_readNumber_4 : decode cX5_readNumber 4 = .ok (.iload_n 3, 1) := by decide +kernel
theorem dX5_readNumber_5 : decode cX5_readNumber 5 = .ok (.iload_n 1, 1) := by decide +kernel
theorem dX5_readNumber_6 : decode cX5_readNumber 6 = .ok (.if_icmp .ge 48, 3) := by decide +kernel
theorem dX5_readNumber_9 : decode cX5_readNumber 9 = .ok (.aload_n 0, 1) := by decide +kernel
theorem dX5_readNumber_10 : decode cX5_readNumber 10 = .ok (.invokevirtual 95, 3) := by decide +kernel
theorem dX5_readNumber_13 : decode cX5_readNumber 13 = .ok (.ifCond .eq 41, 3) := by decide +kernel
theorem dX5_readNumber_16 : decode cX5_readNumber 16 = .ok (.iload_n 2, 1) := by decide +kernel
theorem dX5_readNumber_17 : decode cX5_readNumber 17 = .ok (.iconst 0, 1) := by decide +kernel
theorem dX5_readNumber_18 : decode cX5_readNumber 18 = .ok (.invokestatic 71, 3) := by decide +kernel
theorem dX5_readNumber_21 : decode cX5_readNumber 21 = .ok (.bipush 10, 2) := by decide +kernel
theorem dX5_readNumber_23 : decode cX5_readNumber 23 = .ok (.imul, 1) := by decide +kernel
theorem dX5_readNumber_24 : decode cX5_readNumber 24 = .ok (.aload_n 0, 1) := by decide +kernel
theorem dX5_readNumber_25 : decode cX5_readNumber 25 = .ok (.getfield 9, 3) := by decide +kernel
theorem dX5_readNumber_28 : decode cX5_readNumber 28 = .ok (.aload_n 0, 1) := by decide +kernel
theorem dX5_readNumber_29 : decode cX5_readNumber 29 = .ok (.getfield 19, 3) := by decide +kernel
theorem dX5_readNumber_32 : decode cX5_readNumber 32 = .ok (.caload, 1) := by decide +kernel
theorem dX5_readNumber_33 : decode cX5_readNumber 33 = .ok (.bipush 48, 2) := by decide +kernel
theorem dX5_readNumber_35 : decode cX5_readNumber 35 = .ok (.isub, 1) := by decide +kernel
theorem dX5_readNumber_36 : decode cX5_readNumber 36 = .ok (.iadd, 1) := by decide +kernel
theorem dX5_readNumber_37 : decode cX5_readNumber 37 = .ok (.istore_n 2, 1) := by decide +kernel
theorem dX5_readNumber_38 : decode cX5_readNumber 38 = .ok (.aload_n 0, 1) := by decide +kernel
theorem dX5_readNumber_39 : decode cX5_readNumber 39 = .ok (.dup, 1) := by decide +kernel
theorem dX5_readNumber_40 : decode cX5_readNumber 40 = .ok (.getfield 19, 3) := by decide +kernel
theorem dX5_readNumber_43 : decode cX5_readNumber 43 = .ok (.iconst 1, 1) := by decide +kernel
theorem dX5_readNumber_44 : decode cX5_readNumber 44 = .ok (.iadd, 1) := by decide +kernel
theorem dX5_readNumber_45 : decode cX5_readNumber 45 = .ok (.putfield 19, 3) := by decide +kernel
theorem dX5_readNumber_48 : decode cX5_readNumber 48 = .ok (.iinc 3 1, 3) := by decide +kernel
theorem dX5_readNumber_51 : decode cX5_readNumber 51 = .ok (.goto (-47), 3) := by decide +kernel
theorem dX5_readNumber_54 : decode cX5_readNumber 54 = .ok (.iload_n 2, 1) := by decide +kernel
theorem dX5_readNumber_55 : decode cX5_readNumber 55 = .ok (.ireturn, 1) := by decide +kernel
theorem dX5_digitFollows_0 : decode cX5_digitFollows 0 = .ok (.aload_n 0, 1) := by decide +kernel
theorem dX5_digitFollows_1 : decode cX5_digitFollows 1 = .ok (.getfield 19, 3) := by decide +kernel
theorem dX5_digitFollows_4 : decode cX5_digitFollows 4 = .ok (.aload_n 0, 1) := by decide +kernel
theorem dX5_digitFollows_5 : decode cX5_digitFollows 5 = .ok (.getfield 15, 3) := by decide +kernel
theorem dX5_digitFollows_8 : decode cX5_digitFollows 8 = .ok (.if_icmp .ge 35, 3) := by decide +kernel
theorem dX5_digitFollows_11 : decode cX5_digitFollows 11 = .ok (.aload_n 0, 1) := by decide +kernel
theorem dX5_digitFollows_12 : decode cX5_digitFollows 12 = .ok (.getfield 9, 3) := by decide +kernel
theorem dX5_digitFollows_15 : decode cX5_digitFollows 15 = .ok (.aload_n 0, 1) := by decide +kernel
theorem dX5_digitFollows_16 : decode cX5_digitFollows 16 = .ok (.getfield 19, 3) := by decide +kernel
theorem dX5_digitFollows_19 : decode cX5_digitFollows 19 = .ok (.caload, 1) := by decide +kernel
theorem dX5_digitFollows_20 : decode cX5_digitFollows 20 = .ok (.bipush 48, 2) := by decide +kernel
theorem dX5_digitFollows_22 : decode cX5_digitFollows 22 = .ok (.if_icmp .lt 21, 3) := by decide +kernel
theorem dX5_digitFollows_25 : decode cX5_digitFollows 25 = .ok (.aload_n 0, 1) := by decide +kernel
theorem dX5_digitFollows_26 : decode cX5_digitFollows 26 = .ok (.getfield 9, 3) := by decide +kernel
theorem dX5_digitFollows_29 : decode cX5_digitFollows 29 = .ok (.aload_n 0, 1) := by decide +kernel
theorem dX5_digitFollows_30 : decode cX5_digitFollows 30 = .ok (.getfield 19, 3) := by decide +kernel
theorem dX5_digitFollows_33 : decode cX5_digitFollows 33 = .ok (.caload, 1) := by decide +kernel
theorem dX5_digitFollows_34 : decode cX5_digitFollows 34 = .ok (.bipush 57, 2) := by decide +kernel
theorem dX5_digitFollows_36 : decode cX5_digitFollows 36 = .ok (.if_icmp .gt 7, 3) := by decide +kernel
theorem dX5_digitFollows_39 : decode cX5_digitFollows 39 = .ok (.iconst 1, 1) := by decide +kernel
theorem dX5_digitFollows_40 : decode cX5_digitFollows 40 = .ok (.goto 4, 3) := by decide +kernel
theorem dX5_digitFollows_43 : decode cX5_digitFollows 43 = .ok (.iconst 0, 1) := by decide +kernel
theorem dX5_digitFollows_44 : decode cX5_digitFollows 44 = .ok (.ireturn, 1) := by decide +kernel
theorem dX6_init_0 : decode cX6_init 0 = .ok (.aload_n 0, 1) := by decide +kernel
theorem dX6_init_1 : decode cX6_init 1 = .ok (.invokespecial 3, 3) := by decide +kernel
theorem dX6_init_4 : decode cX6_init 4 = .ok (.aload_n 0, 1) := by decide +kernel
theorem dX6_init_5 : decode cX6_init 5 = .ok (.new 9, 3) := by decide +kernel
theorem dX6_init_8 : decode cX6_init 8 = .ok (.dup, 1) := by decide +kernel
theorem dX6_init_9 : decode cX6_init 9 = .ok (.invokespecial 11, 3) := by decide +kernel
theorem dX6_init_12 : decode cX6_init 12 = .ok (.putfield 12, 3) := by decide +kernel
theorem dX6_init_15 : decode cX6_init 15 = .ok (.aload_n 0, 1) := by decide +kernel
theorem dX6_init_16 : decode cX6_init 16 = .ok (.bipush 20, 2) := by decide +kernel
theorem dX6_init_18 : decode cX6_init 18 = .ok (.putfield 18, 3) := by decide +kernel
theorem dX6_init_21 : decode cX6_init 21 = .ok (.aload_n 0, 1) := by decide +kernel
theorem dX6_init_22 : decode cX6_init 22 = .ok (.iload_n 1, 1) := by decide +kernel
theorem dX6_init_23 : decode cX6_init 23 = .ok (.putfield 22, 3) := by decide +kernel
theorem dX6_init_26 : decode cX6_init 26 = .ok (.return_, 1) := by decide +kernel
theorem dX6_copyFrom_0 : decode cX6_copyFrom 0 = .ok (.aload_n 0, 1) := by decide +kernel
theorem dX6_copyFrom_1 : decode cX6_copyFrom 1 = .ok (.getfield 12, 3) := by decide +kernel
theorem dX6_copyFrom_4 : decode cX6_copyFrom 4 = .ok (.aload_n 1, 1) := by decide +kernel
theorem dX6_copyFrom_5 : decode cX6_copyFrom 5 = .ok (.getfield 12, 3) := by decide +kernel
theorem dX6_copyFrom_8 : decode cX6_copyFrom 8 = .ok (.invokevirtual 25, 3) := by decide +kernel
theorem dX6_copyFrom_11 : decode cX6_copyFrom 11 = .ok (.aload_n 0, 1) := by decide +kernel
theorem dX6_copyFrom_12 : decode cX6_copyFrom 12 = .ok (.aload_n 1, 1) := by decide +kernel
theorem dX6_copyFrom_13 : decode cX6_copyFrom 13 = .ok (.getfield 18, 3) := by decide +kernel
theorem dX6_copyFrom_16 : decode cX6_copyFrom 16 = .ok (.putfield 18, 3) := by decide +kernel
theorem dX6_copyFrom_19 : decode cX6_copyFrom 19 = .ok (.return_, 1) := by decide +kernel
theorem dX6_liquid_0 : decode cX6_liquid 0 = .ok (.aload_n 0, 1) := by decide +kernel
theorem dX6_liquid_1 : decode cX6_liquid 1 = .ok (.getfield 12, 3) := by decide +kernel
theorem dX6_liquid_4 : decode cX6_liquid 4 = .ok (.invokevirtual 29, 3) := by decide +kernel
theorem dX6_liquid_7 : decode cX6_liquid 7 = .ok (.ifCond .le 21, 3) := by decide +kernel
theorem dX6_liquid_10 : decode cX6_liquid 10 = .ok (.aload_n 0, 1) := by decide +kernel
theorem dX6_liquid_11 : decode cX6_liquid 11 = .ok (.getfield 18, 3) := by decide +kernel
theorem dX6_liquid_14 : decode cX6_liquid 14 = .ok (.aload_n 0, 1) := by decide +kernel
theorem dX6_liquid_15 : decode cX6_liquid 15 = .ok (.getfield 12, 3) := by decide +kernel
theorem dX6_liquid_18 : decode cX6_liquid 18 = .ok (.invokevirtual 33, 3) := by decide +kernel
theorem dX6_liquid_21 : decode cX6_liquid 21 = .ok (.if_icmp .lt 7, 3) := by decide +kernel
theorem dX6_liquid_24 : decode cX6_liquid 24 = .ok (.iconst 1, 1) := by decide +kernel
theorem dX6_liquid_25 : decode cX6_liquid 25 = .ok (.goto 4, 3) := by decide +kernel
theorem dX6_liquid_28 : decode cX6_liquid 28 = .ok (.iconst 0, 1) := by decide +kernel
theorem dX6_liquid_29 : decode cX6_liquid 29 = .ok (.ireturn, 1) := by decide +kernel
theorem dX6_blend_0 : decode cX6_blend 0 = .ok (.aload_n 0, 1) := by decide +kernel
theorem dX6_blend_1 : decode cX6_blend 1 = .ok (.getfield 12, 3) := by decide +kernel
theorem dX6_blend_4 : decode cX6_blend 4 = .ok (.invokevirtual 29, 3) := by decide +kernel
theorem dX6_blend_7 : decode cX6_blend 7 = .ok (.aload_n 0, 1) := by decide +kernel
theorem dX6_blend_8 : decode cX6_blend 8 = .ok (.getfield 22, 3) := by decide +kernel
theorem dX6_blend_11 : decode cX6_blend 11 = .ok (.iadd, 1) := by decide +kernel
theorem dX6_blend_12 : decode cX6_blend 12 = .ok (.istore_n 3, 1) := by decide +kernel
theorem dX6_blend_13 : decode cX6_blend 13 = .ok (.iload_n 3, 1) := by decide +kernel
theorem dX6_blend_14 : decode cX6_blend 14 = .ok (.iload_n 1, 1) := by decide +kernel
theorem dX6_blend_15 : decode cX6_blend 15 = .ok (.iadd, 1) := by decide +kernel
theorem dX6_blend_16 : decode cX6_blend 16 = .ok (.ifCond .le 21, 3) := by decide +kernel
theorem dX6_blend_19 : decode cX6_blend 19 = .ok (.aload_n 0, 1) := by decide +kernel
theorem dX6_blend_20 : decode cX6_blend 20 = .ok (.aload_n 0, 1) := by decide +kernel
theorem dX6_blend_21 : decode cX6_blend 21 = .ok (.getfield 18, 3) := by decide +kernel
theorem dX6_blend_24 : decode cX6_blend 24 = .ok (.iload_n 3, 1) := by decide +kernel
theorem dX6_blend_25 : decode cX6_blend 25 = .ok (.imul, 1) := by decide +kernel
theorem dX6_blend_26 : decode cX6_blend 26 = .ok (.iload_n 2, 1) := by decide +kernel
theorem dX6_blend_27 : decode cX6_blend 27 = .ok (.iload_n 1, 1) := by decide +kernel
theorem dX6_blend_28 : decode cX6_blend 28 = .ok (.imul, 1) := by decide +kernel
theorem dX6_blend_29 : decode cX6_blend 29 = .ok (.iadd, 1) := by decide +kernel
theorem dX6_blend_30 : decode cX6_blend 30 = .ok (.iload_n 3, 1) := by decide +kernel
theorem dX6_blend_31 : decode cX6_blend 31 = .ok (.iload_n 1, 1) := by decide +kernel
theorem dX6_blend_32 : decode cX6_blend 32 = .ok (.iadd, 1) := by decide +kernel
theorem dX6_blend_33 : decode cX6_blend 33 = .ok (.idiv, 1) := by decide +kernel
theorem dX6_blend_34 : decode cX6_blend 34 = .ok (.putfield 18, 3) := by decide +kernel
theorem dX6_blend_37 : decode cX6_blend 37 = .ok (.return_, 1) := by decide +kernel
theorem dX6_warm_0 : decode cX6_warm 0 = .ok (.aload_n 0, 1) := by decide +kernel
theorem dX6_warm_1 : decode cX6_warm 1 = .ok (.aload_n 0, 1) := by decide +kernel
theorem dX6_warm_2 : decode cX6_warm 2 = .ok (.getfield 18, 3) := by decide +kernel
theorem dX6_warm_5 : decode cX6_warm 5 = .ok (.iload_n 1, 1) := by decide +kernel
theorem dX6_warm_6 : decode cX6_warm 6 = .ok (.iadd, 1) := by decide +kernel
theorem dX6_warm_7 : decode cX6_warm 7 = .ok (.invokestatic 36, 3) := by decide +kernel
theorem dX6_warm_10 : decode cX6_warm 10 = .ok (.putfield 18, 3) := by decide +kernel
theorem dX6_warm_13 : decode cX6_warm 13 = .ok (.return_, 1) := by decide +kernel
theorem dX6_chillIfEmpty_0 : decode cX6_chillIfEmpty 0 = .ok (.aload_n 0, 1) := by decide +kernel
theorem dX6_chillIfEmpty_1 : decode cX6_chillIfEmpty 1 = .ok (.getfield 12, 3) := by decide +kernel
theorem dX6_chillIfEmpty_4 : decode cX6_chillIfEmpty 4 = .ok (.invokevirtual 29, 3) := by decide +kernel
theorem dX6_chillIfEmpty_7 : decode cX6_chillIfEmpty 7 = .ok (.ifCond .ne 9, 3) := by decide +kernel
theorem dX6_chillIfEmpty_10 : decode cX6_chillIfEmpty 10 = .ok (.aload_n 0, 1) := by decide +kernel
theorem dX6_chillIfEmpty_11 : decode cX6_chillIfEmpty 11 = .ok (.bipush 20, 2) := by decide +kernel
theorem dX6_chillIfEmpty_13 : decode cX6_chillIfEmpty 13 = .ok (.putfield 18, 3) := by decide +kernel
theorem dX6_chillIfEmpty_16 : decode cX6_chillIfEmpty 16 = .ok (.return_, 1) := by decide +kernel
theorem dX7_init_0 : decode cX7_init 0 = .ok (.aload_n 0, 1) := by decide +kernel
theorem dX7_init_1 : decode cX7_init 1 = .ok (.invokespecial 1, 3) := by decide +kernel
theorem dX7_init_4 : decode cX7_init 4 = .ok (.aload_n 0, 1) := by decide +kernel
theorem dX7_init_5 : decode cX7_init 5 = .ok (.new 7, 3) := by decide +kernel
theorem dX7_init_8 : decode cX7_init 8 = .ok (.dup, 1) := by decide +kernel
theorem dX7_init_9 : decode cX7_init 9 = .ok (.invokespecial 9, 3) := by decide +kernel
theorem dX7_init_12 : decode cX7_init 12 = .ok (.putfield 10, 3) := by decide +kernel
theorem dX7_init_15 : decode cX7_init 15 = .ok (.aload_n 0, 1) := by decide +kernel
theorem dX7_init_16 : decode cX7_init 16 = .ok (.new 16, 3) := by decide +kernel
theorem dX7_init_19 : decode cX7_init 19 = .ok (.dup, 1) := by decide +kernel
theorem dX7_init_20 : decode cX7_init 20 = .ok (.invokespecial 18, 3) := by decide +kernel
theorem dX7_init_23 : decode cX7_init 23 = .ok (.putfield 19, 3) := by decide +kernel
theorem dX7_init_26 : decode cX7_init 26 = .ok (.aload_n 0, 1) := by decide +kernel
theorem dX7_init_27 : decode cX7_init 27 = .ok (.new 7, 3) := by decide +kernel
theorem dX7_init_30 : decode cX7_init 30 = .ok (.dup, 1) := by decide +kernel
theorem dX7_init_31 : decode cX7_init 31 = .ok (.invokespecial 9, 3) := by decide +kernel
theorem dX7_init_34 : decode cX7_init 34 = .ok (.putfield 23, 3) := by decide +kernel
theorem dX7_init_37 : decode cX7_init 37 = .ok (.aload_n 0, 1) := by decide +kernel
theorem dX7_init_38 : decode cX7_init 38 = .ok (.iconst 0, 1) := by decide +kernel
theorem dX7_init_39 : decode cX7_init 39 = .ok (.putfield 26, 3) := by decide +kernel
theorem dX7_init_42 : decode cX7_init 42 = .ok (.aload_n 0, 1) := by decide +kernel
theorem dX7_init_43 : decode cX7_init 43 = .ok (.new 30, 3) := by decide +kernel
theorem dX7_init_46 : decode cX7_init 46 = .ok (.dup, 1) := by decide +kernel
theorem dX7_init_47 : decode cX7_init 47 = .ok (.invokespecial 32, 3) := by decide +kernel
theorem dX7_init_50 : decode cX7_init 50 = .ok (.putfield 33, 3) := by decide +kernel
theorem dX7_init_53 : decode cX7_init 53 = .ok (.aload_n 0, 1) := by decide +kernel
theorem dX7_init_54 : decode cX7_init 54 = .ok (.iconst (-1), 1) := by decide +kernel
theorem dX7_init_55 : decode cX7_init 55 = .ok (.putfield 37, 3) := by decide +kernel
theorem dX7_init_58 : decode cX7_init 58 = .ok (.aload_n 0, 1) := by decide +kernel
theorem dX7_init_59 : decode cX7_init 59 = .ok (.iconst (-1), 1) := by decide +kernel
theorem dX7_init_60 : decode cX7_init 60 = .ok (.putfield 41, 3) := by decide +kernel
theorem dX7_init_63 : decode cX7_init 63 = .ok (.aload_n 0, 1) := by decide +kernel
theorem dX7_init_64 : decode cX7_init 64 = .ok (.new 44, 3) := by decide +kernel
theorem dX7_init_67 : decode cX7_init 67 = .ok (.dup, 1) := by decide +kernel
theorem dX7_init_68 : decode cX7_init 68 = .ok (.invokespecial 46, 3) := by decide +kernel
theorem dX7_init_71 : decode cX7_init 71 = .ok (.putfield 47, 3) := by decide +kernel
theorem dX7_init_74 : decode cX7_init 74 = .ok (.return_, 1) := by decide +kernel
theorem dX7_charge_0 : decode cX7_charge 0 = .ok (.aload_n 0, 1) := by decide +kernel
theorem dX7_charge_1 : decode cX7_charge 1 = .ok (.getstatic 51, 3) := by decide +kernel
theorem dX7_charge_4 : decode cX7_charge 4 = .ok (.iload_n 1, 1) := by decide +kernel
theorem dX7_charge_5 : decode cX7_charge 5 = .ok (.iload_n 2, 1) := by decide +kernel
theorem dX7_charge_6 : decode cX7_charge 6 = .ok (.iload_n 3, 1) := by decide +kernel
theorem dX7_charge_7 : decode cX7_charge 7 = .ok (.invokevirtual 57, 3) := by decide +kernel
theorem dX7_charge_10 : decode cX7_charge 10 = .ok (.ireturn, 1) := by decide +kernel
theorem dX7_setFire_0 : decode cX7_setFire 0 = .ok (.aload_n 0, 1) := by decide +kernel
theorem dX7_setFire_1 : decode cX7_setFire 1 = .ok (.getstatic 61, 3) := by decide +kernel
theorem dX7_setFire_4 : decode cX7_setFire 4 = .ok (.iload_n 1, 1) := by decide +kernel
theorem dX7_setFire_5 : decode cX7_setFire 5 = .ok (.iload_n 2, 1) := by decide +kernel
theorem dX7_setFire_6 : decode cX7_setFire 6 = .ok (.iconst 0, 1) := by decide +kernel
theorem dX7_setFire_7 : decode cX7_setFire 7 = .ok (.invokevirtual 57, 3) := by decide +kernel
theorem dX7_setFire_10 : decode cX7_setFire 10 = .ok (.ireturn, 1) := by decide +kernel
theorem dX7_skim_0 : decode cX7_skim 0 = .ok (.aload_n 0, 1) := by decide +kernel
theorem dX7_skim_1 : decode cX7_skim 1 = .ok (.getstatic 64, 3) := by decide +kernel
theorem dX7_skim_4 : decode cX7_skim 4 = .ok (.iload_n 1, 1) := by decide +kernel
theorem dX7_skim_5 : decode cX7_skim 5 = .ok (.iconst 0, 1) := by decide +kernel
theorem dX7_skim_6 : decode cX7_skim 6 = .ok (.iconst 0, 1) := by decide +kernel
theorem dX7_skim_7 : decode cX7_skim 7 = .ok (.invokevirtual 57, 3) := by decide +kernel
theorem dX7_skim_10 : decode cX7_skim 10 = .ok (.ireturn, 1) := by decide +kernel
theorem dX7_tap_0 : decode cX7_tap 0 = .ok (.aload_n 0, 1) := by decide +kernel
theorem dX7_tap_1 : decode cX7_tap 1 = .ok (.getstatic 67, 3) := by decide +kernel
theorem dX7_tap_4 : decode cX7_tap 4 = .ok (.iload_n 1, 1) := by decide +kernel
theorem dX7_tap_5 : decode cX7_tap 5 = .ok (.iload_n 2, 1) := by decide +kernel
theorem dX7_tap_6 : decode cX7_tap 6 = .ok (.iload_n 3, 1) := by decide +kernel
theorem dX7_tap_7 : decode cX7_tap 7 = .ok (.invokevirtual 57, 3) := by decide +kernel
theorem dX7_tap_10 : decode cX7_tap 10 = .ok (.ireturn, 1) := by decide +kernel
theorem dX7_pourBack_0 : decode cX7_pourBack 0 = .ok (.aload_n 0, 1) := by decide +kernel
theorem dX7_pourBack_1 : decode cX7_pourBack 1 = .ok (.getstatic 70, 3) := by decide +kernel
theorem dX7_pourBack_4 : decode cX7_pourBack 4 = .ok (.iload_n 1, 1) := by decide +kernel
theorem dX7_pourBack_5 : decode cX7_pourBack 5 = .ok (.iload_n 2, 1) := by decide +kernel
theorem dX7_pourBack_6 : decode cX7_pourBack 6 = .ok (.iconst 0, 1) := by decide +kernel
theorem dX7_pourBack_7 : decode cX7_pourBack 7 = .ok (.invokevirtual 57, 3) := by decide +kernel
theorem dX7_pourBack_10 : decode cX7_pourBack 10 = .ok (.ireturn, 1) := by decide +kernel
theorem dX7_addMould_0 : decode cX7_addMould 0 = .ok (.aload_n 0, 1) := by decide +kernel
theorem dX7_addMould_1 : decode cX7_addMould 1 = .ok (.getstatic 73, 3) := by decide +kernel
theorem dX7_addMould_4 : decode cX7_addMould 4 = .ok (.iload_n 1, 1) := by decide +kernel
theorem dX7_addMould_5 : decode cX7_addMould 5 = .ok (.iconst 0, 1) := by decide +kernel
theorem dX7_addMould_6 : decode cX7_addMould 6 = .ok (.iconst 0, 1) := by decide +kernel
theorem dX7_addMould_7 : decode cX7_addMould 7 = .ok (.invokevirtual 57, 3) := by decide +kernel
theorem dX7_addMould_10 : decode cX7_addMould 10 = .ok (.ireturn, 1) := by decide +kernel
theorem dX7_pour_0 : decode cX7_pour 0 = .ok (.aload_n 0, 1) := by decide +kernel
theorem dX7_pour_1 : decode cX7_pour 1 = .ok (.getstatic 76, 3) := by decide +kernel
theorem dX7_pour_4 : decode cX7_pour 4 = .ok (.iload_n 1, 1) := by decide +kernel
theorem dX7_pour_5 : decode cX7_pour 5 = .ok (.iload_n 2, 1) := by decide +kernel
theorem dX7_pour_6 : decode cX7_pour 6 = .ok (.iconst 0, 1) := by decide +kernel
theorem dX7_pour_7 : decode cX7_pour 7 = .ok (.invokevirtual 57, 3) := by decide +kernel
theorem dX7_pour_10 : decode cX7_pour 10 = .ok (.ireturn, 1) := by decide +kernel
theorem dX7_breakOut_0 : decode cX7_breakOut 0 = .ok (.aload_n 0, 1) := by decide +kernel
theorem dX7_breakOut_1 : decode cX7_breakOut 1 = .ok (.getstatic 79, 3) := by decide +kernel
theorem dX7_breakOut_4 : decode cX7_breakOut 4 = .ok (.iload_n 1, 1) := by decide +kernel
theorem dX7_breakOut_5 : decode cX7_breakOut 5 = .ok (.iconst 0, 1) := by decide +kernel
theorem dX7_breakOut_6 : decode cX7_breakOut 6 = .ok (.iconst 0, 1) := by decide +kernel
theorem dX7_breakOut_7 : decode cX7_breakOut 7 = .ok (.invokevirtual 57, 3) := by decide +kernel
theorem dX7_breakOut_10 : decode cX7_breakOut 10 = .ok (.ireturn, 1) := by decide +kernel
theorem dX7_meltDown_0 : decode cX7_meltDown 0 = .ok (.aload_n 0, 1) := by decide +kernel
theorem dX7_meltDown_1 : decode cX7_meltDown 1 = .ok (.getstatic 82, 3) := by decide +kernel
theorem dX7_meltDown_4 : decode cX7_meltDown 4 = .ok (.iload_n 1, 1) := by decide +kernel
theorem dX7_meltDown_5 : decode cX7_meltDown 5 = .ok (.iload_n 2, 1) := by decide +kernel
theorem dX7_meltDown_6 : decode cX7_meltDown 6 = .ok (.iconst 0, 1) := by decide +kernel
theorem dX7_meltDown_7 : decode cX7_meltDown 7 = .ok (.invokevirtual 57, 3) := by decide +kernel
theorem dX7_meltDown_10 : decode cX7_meltDown 10 = .ok (.ireturn, 1) := by decide +kernel
theorem dX7_advance_0 : decode cX7_advance 0 = .ok (.aload_n 0, 1) := by decide +kernel
theorem dX7_advance_1 : decode cX7_advance 1 = .ok (.getstatic 85, 3) := by decide +kernel
theorem dX7_advance_4 : decode cX7_advance 4 = .ok (.iload_n 1, 1) := by decide +kernel
theorem dX7_advance_5 : decode cX7_advance 5 = .ok (.iconst 0, 1) := by decide +kernel
theorem dX7_advance_6 : decode cX7_advance 6 = .ok (.iconst 0, 1) := by decide +kernel
theorem dX7_advance_7 : decode cX7_advance 7 = .ok (.invokevirtual 57, 3) := by decide +kernel
theorem dX7_advance_10 : decode cX7_advance 10 = .ok (.ireturn, 1) := by decide +kernel
theorem dX7_change_0 : decode cX7_change 0 = .ok (.aload_n 0, 1) := by decide +kernel
theorem dX7_change_1 : decode cX7_change 1 = .ok (.getfield 19, 3) := by decide +kernel
theorem dX7_change_4 : decode cX7_change 4 = .ok (.aload_n 0, 1) := by decide +kernel
theorem dX7_change_5 : decode cX7_change 5 = .ok (.getfield 10, 3) := by decide +kernel
theorem dX7_change_8 : decode cX7_change 8 = .ok (.invokevirtual 88, 3) := by decide +kernel
theorem dX7_change_11 : decode cX7_change 11 = .ok (.aload_n 0, 1) := by decide +kernel
theorem dX7_change_12 : decode cX7_change 12 = .ok (.getfield 10, 3) := by decide +kernel
theorem dX7_change_15 : decode cX7_change 15 = .ok (.aload_n 1, 1) := by decide +kernel
theorem dX7_change_16 : decode cX7_change 16 = .ok (.iload_n 2, 1) := by decide +kernel
theorem dX7_change_17 : decode cX7_change 17 = .ok (.iload_n 3, 1) := by decide +kernel
theorem dX7_change_18 : decode cX7_change 18 = .ok (.iload 4, 2) := by decide +kernel
theorem dX7_change_20 : decode cX7_change 20 = .ok (.invokevirtual 92, 3) := by decide +kernel
theorem dX7_change_23 : decode cX7_change 23 = .ok (.istore 5, 2) := by decide +kernel
theorem dX7_change_25 : decode cX7_change 25 = .ok (.iload 5, 2) := by decide +kernel
theorem dX7_change_27 : decode cX7_change 27 = .ok (.invokestatic 95, 3) := by decide +kernel
theorem dX7_change_30 : decode cX7_change 30 = .ok (.aload_n 0, 1) := by decide +kernel
theorem dX7_change_31 : decode cX7_change 31 = .ok (.getfield 19, 3) := by decide +kernel
theorem dX7_change_34 : decode cX7_change 34 = .ok (.invokevirtual 99, 3) := by decide +kernel
theorem dX7_change_37 : decode cX7_change 37 = .ok (.iload 5, 2) := by decide +kernel
theorem dX7_change_39 : decode cX7_change 39 = .ok (.ireturn, 1) := by decide +kernel
theorem dX7_throwIfRefused_0 : decode cX7_throwIfRefused 0 = .ok (.iload_n 0, 1) := by decide +kernel
theorem dX7_throwIfRefused_1 : decode cX7_throwIfRefused 1 = .ok (.tableswitch 75 (-5) (-1) #[67, 59, 51, 43, 35], 35) := by decide +kernel
theorem dX7_throwIfRefused_36 : decode cX7_throwIfRefused 36 = .ok (.new 102, 3) := by decide +kernel
theorem dX7_throwIfRefused_39 : decode cX7_throwIfRefused 39 = .ok (.dup, 1) := by decide +kernel
theorem dX7_throwIfRefused_40 : decode cX7_throwIfRefused 40 = .ok (.invokespecial 104, 3) := by decide +kernel
theorem dX7_throwIfRefused_43 : decode cX7_throwIfRefused 43 = .ok (.athrow, 1) := by decide +kernel
theorem dX7_throwIfRefused_44 : decode cX7_throwIfRefused 44 = .ok (.new 105, 3) := by decide +kernel
theorem dX7_throwIfRefused_47 : decode cX7_throwIfRefused 47 = .ok (.dup, 1) := by decide +kernel
theorem dX7_throwIfRefused_48 : decode cX7_throwIfRefused 48 = .ok (.invokespecial 107, 3) := by decide +kernel
theorem dX7_throwIfRefused_51 : decode cX7_throwIfRefused 51 = .ok (.athrow, 1) := by decide +kernel
theorem dX7_throwIfRefused_52 : decode cX7_throwIfRefused 52 = .ok (.new 108, 3) := by decide +kernel
theorem dX7_throwIfRefused_55 : decode cX7_throwIfRefused 55 = .ok (.dup, 1) := by decide +kernel
theorem dX7_throwIfRefused_56 : decode cX7_throwIfRefused 56 = .ok (.invokespecial 110, 3) := by decide +kernel
theorem dX7_throwIfRefused_59 : decode cX7_throwIfRefused 59 = .ok (.athrow, 1) := by decide +kernel
theorem dX7_throwIfRefused_60 : decode cX7_throwIfRefused 60 = .ok (.new 111, 3) := by decide +kernel
theorem dX7_throwIfRefused_63 : decode cX7_throwIfRefused 63 = .ok (.dup, 1) := by decide +kernel
theorem dX7_throwIfRefused_64 : decode cX7_throwIfRefused 64 = .ok (.invokespecial 113, 3) := by decide +kernel
theorem dX7_throwIfRefused_67 : decode cX7_throwIfRefused 67 = .ok (.athrow, 1) := by decide +kernel
theorem dX7_throwIfRefused_68 : decode cX7_throwIfRefused 68 = .ok (.new 114, 3) := by decide +kernel
theorem dX7_throwIfRefused_71 : decode cX7_throwIfRefused 71 = .ok (.dup, 1) := by decide +kernel
theorem dX7_throwIfRefused_72 : decode cX7_throwIfRefused 72 = .ok (.invokespecial 116, 3) := by decide +kernel
theorem dX7_throwIfRefused_75 : decode cX7_throwIfRefused 75 = .ok (.athrow, 1) := by decide +kernel
theorem dX7_throwIfRefused_76 : decode cX7_throwIfRefused 76 = .ok (.return_, 1) := by decide +kernel
theorem dX7_furnaceMass_0 : decode cX7_furnaceMass 0 = .ok (.iload_n 1, 1) := by decide +kernel
theorem dX7_furnaceMass_1 : decode cX7_furnaceMass 1 = .ok (.iconst 3, 1) := by decide +kernel
theorem dX7_furnaceMass_2 : decode cX7_furnaceMass 2 = .ok (.invokestatic 117, 3) := by decide +kernel
theorem dX7_furnaceMass_5 : decode cX7_furnaceMass 5 = .ok (.aload_n 0, 1) := by decide +kernel
theorem dX7_furnaceMass_6 : decode cX7_furnaceMass 6 = .ok (.getfield 10, 3) := by decide +kernel
theorem dX7_furnaceMass_9 : decode cX7_furnaceMass 9 = .ok (.getfield 121, 3) := by decide +kernel
theorem dX7_furnaceMass_12 : decode cX7_furnaceMass 12 = .ok (.iload_n 1, 1) := by decide +kernel
theorem dX7_furnaceMass_13 : decode cX7_furnaceMass 13 = .ok (.aaload, 1) := by decide +kernel
theorem dX7_furnaceMass_14 : decode cX7_furnaceMass 14 = .ok (.getfield 125, 3) := by decide +kernel
theorem dX7_furnaceMass_17 : decode cX7_furnaceMass 17 = .ok (.getfield 131, 3) := by decide +kernel
theorem dX7_furnaceMass_20 : decode cX7_furnaceMass 20 = .ok (.iload_n 2, 1) := by decide +kernel
theorem dX7_furnaceMass_21 : decode cX7_furnaceMass 21 = .ok (.invokestatic 137, 3) := by decide +kernel
theorem dX7_furnaceMass_24 : decode cX7_furnaceMass 24 = .ok (.iaload, 1) := by decide +kernel
theorem dX7_furnaceMass_25 : decode cX7_furnaceMass 25 = .ok (.ireturn, 1) := by decide +kernel
theorem dX7_furnaceTotal_0 : decode cX7_furnaceTotal 0 = .ok (.iload_n 1, 1) := by decide +kernel
theorem dX7_furnaceTotal_1 : decode cX7_furnaceTotal 1 = .ok (.iconst 3, 1) := by decide +kernel
theorem dX7_furnaceTotal_2 : decode cX7_furnaceTotal 2 = .ok (.invokestatic 117, 3) := by decide +kernel
theorem dX7_furnaceTotal_5 : decode cX7_furnaceTotal 5 = .ok (.aload_n 0, 1) := by decide +kernel
theorem dX7_furnaceTotal_6 : decode cX7_furnaceTotal 6 = .ok (.getfield 10, 3) := by decide +kernel
theorem dX7_furnaceTotal_9 : decode cX7_furnaceTotal 9 = .ok (.getfield 121, 3) := by decide +kernel
theorem dX7_furnaceTotal_12 : decode cX7_furnaceTotal 12 = .ok (.iload_n 1, 1) := by decide +kernel
theorem dX7_furnaceTotal_13 : decode cX7_furnaceTotal 13 = .ok (.aaload, 1) := by decide +kernel
theorem dX7_furnaceTotal_14 : decode cX7_furnaceTotal 14 = .ok (.getfield 125, 3) := by decide +kernel
theorem dX7_furnaceTotal_17 : decode cX7_furnaceTotal 17 = .ok (.invokevirtual 141, 3) := by decide +kernel
theorem dX7_furnaceTotal_20 : decode cX7_furnaceTotal 20 = .ok (.ireturn, 1) := by decide +kernel
theorem dX7_furnaceTemperature_0 : decode cX7_furnaceTemperature 0 = .ok (.iload_n 1, 1) := by decide +kernel
theorem dX7_furnaceTemperature_1 : decode cX7_furnaceTemperature 1 = .ok (.iconst 3, 1) := by decide +kernel
theorem dX7_furnaceTemperature_2 : decode cX7_furnaceTemperature 2 = .ok (.invokestatic 117, 3) := by decide +kernel
theorem dX7_furnaceTemperature_5 : decode cX7_furnaceTemperature 5 = .ok (.aload_n 0, 1) := by decide +kernel
theorem dX7_furnaceTemperature_6 : decode cX7_furnaceTemperature 6 = .ok (.getfield 10, 3) := by decide +kernel
theorem dX7_furnaceTemperature_9 : decode cX7_furnaceTemperature 9 = .ok (.getfield 121, 3) := by decide +kernel
theorem dX7_furnaceTemperature_12 : decode cX7_furnaceTemperature 12 = .ok (.iload_n 1, 1) := by decide +kernel
theorem dX7_furnaceTemperature_13 : decode cX7_furnaceTemperature 13 = .ok (.aaload, 1) := by decide +kernel
theorem dX7_furnaceTemperature_14 : decode cX7_furnaceTemperature 14 = .ok (.getfield 145, 3) := by decide +kernel
theorem dX7_furnaceTemperature_17 : decode cX7_furnaceTemperature 17 = .ok (.ireturn, 1) := by decide +kernel
theorem dX7_fire_0 : decode cX7_fire 0 = .ok (.iload_n 1, 1) := by decide +kernel
theorem dX7_fire_1 : decode cX7_fire 1 = .ok (.iconst 3, 1) := by decide +kernel
theorem dX7_fire_2 : decode cX7_fire 2 = .ok (.invokestatic 117, 3) := by decide +kernel
theorem dX7_fire_5 : decode cX7_fire 5 = .ok (.aload_n 0, 1) := by decide +kernel
theorem dX7_fire_6 : decode cX7_fire 6 = .ok (.getfield 10, 3) := by decide +kernel
theorem dX7_fire_9 : decode cX7_fire 9 = .ok (.getfield 148, 3) := by decide +kernel
theorem dX7_fire_12 : decode cX7_fire 12 = .ok (.iload_n 1, 1) := by decide +kernel
theorem dX7_fire_13 : decode cX7_fire 13 = .ok (.iaload, 1) := by decide +kernel
theorem dX7_fire_14 : decode cX7_fire 14 = .ok (.ireturn, 1) := by decide +kernel
theorem dX7_meltingPoint_0 : decode cX7_meltingPoint 0 = .ok (.aload_n 0, 1) := by decide +kernel
theorem dX7_meltingPoint_1 : decode cX7_meltingPoint 1 = .ok (.iload_n 1, 1) := by decide +kernel
theorem dX7_meltingPoint_2 : decode cX7_meltingPoint 2 = .ok (.invokevirtual 151, 3) := by decide +kernel
theorem dX7_meltingPoint_5 : decode cX7_meltingPoint 5 = .ok (.invokevirtual 155, 3) := by decide +kernel
theorem dX7_meltingPoint_8 : decode cX7_meltingPoint 8 = .ok (.ireturn, 1) := by decide +kernel
theorem dX7_meltingPointByDifferences_0 : decode cX7_meltingPointByDifferences 0 = .ok (.aload_n 0, 1) := by decide +kernel
