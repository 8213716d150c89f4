theorem dX8_ends_39 : decode cX8_ends 39 = .ok (.getfield 26, 3) := by decide +kernel
theorem dX8_ends_42 : decode cX8_ends 42 = .ok (.iload_n 2, 1) := by decide +kernel
theorem dX8_ends_43 : decode cX8_ends 43 = .ok (.aload_n 0, 1) := by decide +kernel
theorem dX8_ends_44 : decode cX8_ends 44 = .ok (.getfield 26, 3) := by decide +kernel
theorem dX8_ends_47 : decode cX8_ends 47 = .ok (.iload_n 2, 1) := by decide +kernel
theorem dX8_ends_48 : decode cX8_ends 48 = .ok (.sipush 128, 3) := by decide +kernel
theorem dX8_ends_51 : decode cX8_ends 51 = .ok (.iadd, 1) := by decide +kernel
theorem dX8_ends_52 : decode cX8_ends 52 = .ok (.iaload, 1) := by decide +kernel
theorem dX8_ends_53 : decode cX8_ends 53 = .ok (.iastore, 1) := by decide +kernel
theorem dX8_ends_54 : decode cX8_ends 54 = .ok (.iinc 2 1, 3) := by decide +kernel
theorem dX8_ends_57 : decode cX8_ends 57 = .ok (.goto (-26), 3) := by decide +kernel
theorem dX8_ends_60 : decode cX8_ends 60 = .ok (.aload_n 0, 1) := by decide +kernel
theorem dX8_ends_61 : decode cX8_ends 61 = .ok (.dup, 1) := by decide +kernel
theorem dX8_ends_62 : decode cX8_ends 62 = .ok (.getfield 64, 3) := by decide +kernel
theorem dX8_ends_65 : decode cX8_ends 65 = .ok (.iconst 1, 1) := by decide +kernel
theorem dX8_ends_66 : decode cX8_ends 66 = .ok (.isub, 1) := by decide +kernel
theorem dX8_ends_67 : decode cX8_ends 67 = .ok (.putfield 64, 3) := by decide +kernel
theorem dX8_ends_70 : decode cX8_ends 70 = .ok (.iconst 0, 1) := by decide +kernel
theorem dX8_ends_71 : decode cX8_ends 71 = .ok (.istore_n 2, 1) := by decide +kernel
theorem dX8_ends_72 : decode cX8_ends 72 = .ok (.iload_n 2, 1) := by decide +kernel
theorem dX8_ends_73 : decode cX8_ends 73 = .ok (.sipush 128, 3) := by decide +kernel
theorem dX8_ends_76 : decode cX8_ends 76 = .ok (.if_icmp .ge 30, 3) := by decide +kernel
theorem dX8_ends_79 : decode cX8_ends 79 = .ok (.aload_n 0, 1) := by decide +kernel
theorem dX8_ends_80 : decode cX8_ends 80 = .ok (.getfield 26, 3) := by decide +kernel
theorem dX8_ends_83 : decode cX8_ends 83 = .ok (.aload_n 0, 1) := by decide +kernel
theorem dX8_ends_84 : decode cX8_ends 84 = .ok (.getfield 64, 3) := by decide +kernel
theorem dX8_ends_87 : decode cX8_ends 87 = .ok (.sipush 128, 3) := by decide +kernel
theorem dX8_ends_90 : decode cX8_ends 90 = .ok (.imul, 1) := by decide +kernel
theorem dX8_ends_91 : decode cX8_ends 91 = .ok (.iload_n 2, 1) := by decide +kernel
theorem dX8_ends_92 : decode cX8_ends 92 = .ok (.iadd, 1) := by decide +kernel
theorem dX8_ends_93 : decode cX8_ends 93 = .ok (.aload_n 0, 1) := by decide +kernel
theorem dX8_ends_94 : decode cX8_ends 94 = .ok (.getfield 20, 3) := by decide +kernel
theorem dX8_ends_97 : decode cX8_ends 97 = .ok (.iload_n 2, 1) := by decide +kernel
theorem dX8_ends_98 : decode cX8_ends 98 = .ok (.iaload, 1) := by decide +kernel
theorem dX8_ends_99 : decode cX8_ends 99 = .ok (.iastore, 1) := by decide +kernel
theorem dX8_ends_100 : decode cX8_ends 100 = .ok (.iinc 2 1, 3) := by decide +kernel
theorem dX8_ends_103 : decode cX8_ends 103 = .ok (.goto (-31), 3) := by decide +kernel
theorem dX8_ends_106 : decode cX8_ends 106 = .ok (.aload_n 0, 1) := by decide +kernel
theorem dX8_ends_107 : decode cX8_ends 107 = .ok (.dup, 1) := by decide +kernel
theorem dX8_ends_108 : decode cX8_ends 108 = .ok (.getfield 64, 3) := by decide +kernel
theorem dX8_ends_111 : decode cX8_ends 111 = .ok (.iconst 1, 1) := by decide +kernel
theorem dX8_ends_112 : decode cX8_ends 112 = .ok (.iadd, 1) := by decide +kernel
theorem dX8_ends_113 : decode cX8_ends 113 = .ok (.putfield 64, 3) := by decide +kernel
theorem dX8_ends_116 : decode cX8_ends 116 = .ok (.iload_n 1, 1) := by decide +kernel
theorem dX8_ends_117 : decode cX8_ends 117 = .ok (.ireturn, 1) := by decide +kernel
theorem dX8_furnace_0 : decode cX8_furnace 0 = .ok (.bipush 9, 2) := by decide +kernel
theorem dX8_furnace_2 : decode cX8_furnace 2 = .ok (.bipush 6, 2) := by decide +kernel
theorem dX8_furnace_4 : decode cX8_furnace 4 = .ok (.iload_n 0, 1) := by decide +kernel
theorem dX8_furnace_5 : decode cX8_furnace 5 = .ok (.imul, 1) := by decide +kernel
theorem dX8_furnace_6 : decode cX8_furnace 6 = .ok (.iadd, 1) := by decide +kernel
theorem dX8_furnace_7 : decode cX8_furnace 7 = .ok (.ireturn, 1) := by decide +kernel
theorem dX8_ladle_0 : decode cX8_ladle 0 = .ok (.bipush 27, 2) := by decide +kernel
theorem dX8_ladle_2 : decode cX8_ladle 2 = .ok (.iconst 5, 1) := by decide +kernel
theorem dX8_ladle_3 : decode cX8_ladle 3 = .ok (.iload_n 0, 1) := by decide +kernel
theorem dX8_ladle_4 : decode cX8_ladle 4 = .ok (.imul, 1) := by decide +kernel
theorem dX8_ladle_5 : decode cX8_ladle 5 = .ok (.iadd, 1) := by decide +kernel
theorem dX8_ladle_6 : decode cX8_ladle 6 = .ok (.ireturn, 1) := by decide +kernel
theorem dX8_mould_0 : decode cX8_mould 0 = .ok (.bipush 44, 2) := by decide +kernel
theorem dX8_mould_2 : decode cX8_mould 2 = .ok (.bipush 6, 2) := by decide +kernel
theorem dX8_mould_4 : decode cX8_mould 4 = .ok (.iload_n 0, 1) := by decide +kernel
theorem dX8_mould_5 : decode cX8_mould 5 = .ok (.imul, 1) := by decide +kernel
theorem dX8_mould_6 : decode cX8_mould 6 = .ok (.iadd, 1) := by decide +kernel
theorem dX8_mould_7 : decode cX8_mould 7 = .ok (.ireturn, 1) := by decide +kernel
theorem dX8_ingot_0 : decode cX8_ingot 0 = .ok (.bipush 80, 2) := by decide +kernel
theorem dX8_ingot_2 : decode cX8_ingot 2 = .ok (.iconst 4, 1) := by decide +kernel
theorem dX8_ingot_3 : decode cX8_ingot 3 = .ok (.iload_n 0, 1) := by decide +kernel
theorem dX8_ingot_4 : decode cX8_ingot 4 = .ok (.imul, 1) := by decide +kernel
theorem dX8_ingot_5 : decode cX8_ingot 5 = .ok (.iadd, 1) := by decide +kernel
theorem dX8_ingot_6 : decode cX8_ingot 6 = .ok (.ireturn, 1) := by decide +kernel
set_option maxRecDepth 20000 in
theorem ggX8_isThree_X8_isIn : GoodIn wsX8_isThree wsX8_isIn := goodIn_r _ [4] (by decide +kernel) (by decide +kernel)
set_option maxRecDepth 20000 in
theorem gX8_isThree_X8_isIn : GoodIn wsX8_isThree (va_wsS RX8 67 yX8_isIn wsX8_isIn) := goodIn_app (goodIn_of _ (by decide +kernel)) ggX8_isThree_X8_isIn
theorem dX8_isThree_0 : decode cX8_isThree 0 = .ok (.iload_n 0, 1) := by decide +kernel
theorem dX8_isThree_1 : decode cX8_isThree 1 = .ok (.iconst 0, 1) := by decide +kernel
theorem dX8_isThree_2 : decode cX8_isThree 2 = .ok (.iconst 2, 1) := by decide +kernel
theorem dX8_isThree_3 : decode cX8_isThree 3 = .ok (.invokestatic 67, 3) := by decide +kernel
theorem dX8_isThree_6 : decode cX8_isThree 6 = .ok (.ireturn, 1) := by decide +kernel
set_option maxRecDepth 20000 in
theorem ggX8_isMould_X8_isIn : GoodIn wsX8_isMould wsX8_isIn := goodIn_r _ [5] (by decide +kernel) (by decide +kernel)
set_option maxRecDepth 20000 in
theorem gX8_isMould_X8_isIn : GoodIn wsX8_isMould (va_wsS RX8 67 yX8_isIn wsX8_isIn) := goodIn_app (goodIn_of _ (by decide +kernel)) ggX8_isMould_X8_isIn
theorem dX8_isMould_0 : decode cX8_isMould 0 = .ok (.iload_n 1, 1) := by decide +kernel
theorem dX8_isMould_1 : decode cX8_isMould 1 = .ok (.iconst 0, 1) := by decide +kernel
theorem dX8_isMould_2 : decode cX8_isMould 2 = .ok (.aload_n 0, 1) := by decide +kernel
theorem dX8_isMould_3 : decode cX8_isMould 3 = .ok (.getfield 16, 3) := by decide +kernel
theorem dX8_isMould_6 : decode cX8_isMould 6 = .ok (.bipush 42, 2) := by decide +kernel
theorem dX8_isMould_8 : decode cX8_isMould 8 = .ok (.iaload, 1) := by decide +kernel
theorem dX8_isMould_9 : decode cX8_isMould 9 = .ok (.iconst 1, 1) := by decide +kernel
theorem dX8_isMould_10 : decode cX8_isMould 10 = .ok (.isub, 1) := by decide +kernel
theorem dX8_isMould_11 : decode cX8_isMould 11 = .ok (.invokestatic 67, 3) := by decide +kernel
theorem dX8_isMould_14 : decode cX8_isMould 14 = .ok (.ireturn, 1) := by decide +kernel
set_option maxRecDepth 20000 in
theorem ggX8_isIngot_X8_isIn : GoodIn wsX8_isIngot wsX8_isIn := goodIn_r _ [5] (by decide +kernel) (by decide +kernel)
set_option maxRecDepth 20000 in
theorem gX8_isIngot_X8_isIn : GoodIn wsX8_isIngot (va_wsS RX8 67 yX8_isIn wsX8_isIn) := goodIn_app (goodIn_of _ (by decide +kernel)) ggX8_isIngot_X8_isIn
theorem dX8_isIngot_0 : decode cX8_isIngot 0 = .ok (.iload_n 1, 1) := by decide +kernel
theorem dX8_isIngot_1 : decode cX8_isIngot 1 = .ok (.iconst 0, 1) := by decide +kernel
theorem dX8_isIngot_2 : decode cX8_isIngot 2 = .ok (.aload_n 0, 1) := by decide +kernel
theorem dX8_isIngot_3 : decode cX8_isIngot 3 = .ok (.getfield 16, 3) := by decide +kernel
theorem dX8_isIngot_6 : decode cX8_isIngot 6 = .ok (.bipush 43, 2) := by decide +kernel
theorem dX8_isIngot_8 : decode cX8_isIngot 8 = .ok (.iaload, 1) := by decide +kernel
theorem dX8_isIngot_9 : decode cX8_isIngot 9 = .ok (.iconst 1, 1) := by decide +kernel
theorem dX8_isIngot_10 : decode cX8_isIngot 10 = .ok (.isub, 1) := by decide +kernel
theorem dX8_isIngot_11 : decode cX8_isIngot 11 = .ok (.invokestatic 67, 3) := by decide +kernel
theorem dX8_isIngot_14 : decode cX8_isIngot 14 = .ok (.ireturn, 1) := by decide +kernel
theorem dX8_kind_0 : decode cX8_kind 0 = .ok (.iload_n 0, 1) := by decide +kernel
theorem dX8_kind_1 : decode cX8_kind 1 = .ok (.bipush 99, 2) := by decide +kernel
theorem dX8_kind_3 : decode cX8_kind 3 = .ok (.if_icmp .ne 7, 3) := by decide +kernel
theorem dX8_kind_6 : decode cX8_kind 6 = .ok (.iconst 0, 1) := by decide +kernel
theorem dX8_kind_7 : decode cX8_kind 7 = .ok (.goto 34, 3) := by decide +kernel
theorem dX8_kind_10 : decode cX8_kind 10 = .ok (.iload_n 0, 1) := by decide +kernel
theorem dX8_kind_11 : decode cX8_kind 11 = .ok (.bipush 116, 2) := by decide +kernel
theorem dX8_kind_13 : decode cX8_kind 13 = .ok (.if_icmp .ne 7, 3) := by decide +kernel
theorem dX8_kind_16 : decode cX8_kind 16 = .ok (.iconst 1, 1) := by decide +kernel
theorem dX8_kind_17 : decode cX8_kind 17 = .ok (.goto 24, 3) := by decide +kernel
theorem dX8_kind_20 : decode cX8_kind 20 = .ok (.iload_n 0, 1) := by decide +kernel
theorem dX8_kind_21 : decode cX8_kind 21 = .ok (.bipush 108, 2) := by decide +kernel
theorem dX8_kind_23 : decode cX8_kind 23 = .ok (.if_icmp .ne 7, 3) := by decide +kernel
theorem dX8_kind_26 : decode cX8_kind 26 = .ok (.iconst 2, 1) := by decide +kernel
theorem dX8_kind_27 : decode cX8_kind 27 = .ok (.goto 14, 3) := by decide +kernel
theorem dX8_kind_30 : decode cX8_kind 30 = .ok (.iload_n 0, 1) := by decide +kernel
theorem dX8_kind_31 : decode cX8_kind 31 = .ok (.bipush 111, 2) := by decide +kernel
theorem dX8_kind_33 : decode cX8_kind 33 = .ok (.if_icmp .ne 7, 3) := by decide +kernel
theorem dX8_kind_36 : decode cX8_kind 36 = .ok (.iconst 3, 1) := by decide +kernel
theorem dX8_kind_37 : decode cX8_kind 37 = .ok (.goto 4, 3) := by decide +kernel
theorem dX8_kind_40 : decode cX8_kind 40 = .ok (.iconst (-1), 1) := by decide +kernel
theorem dX8_kind_41 : decode cX8_kind 41 = .ok (.ireturn, 1) := by decide +kernel
theorem dX8_mass_0 : decode cX8_mass 0 = .ok (.aload_n 0, 1) := by decide +kernel
theorem dX8_mass_1 : decode cX8_mass 1 = .ok (.getfield 16, 3) := by decide +kernel
theorem dX8_mass_4 : decode cX8_mass 4 = .ok (.iload_n 1, 1) := by decide +kernel
theorem dX8_mass_5 : decode cX8_mass 5 = .ok (.iaload, 1) := by decide +kernel
theorem dX8_mass_6 : decode cX8_mass 6 = .ok (.aload_n 0, 1) := by decide +kernel
theorem dX8_mass_7 : decode cX8_mass 7 = .ok (.getfield 16, 3) := by decide +kernel
theorem dX8_mass_10 : decode cX8_mass 10 = .ok (.iload_n 1, 1) := by decide +kernel
theorem dX8_mass_11 : decode cX8_mass 11 = .ok (.iconst 1, 1) := by decide +kernel
theorem dX8_mass_12 : decode cX8_mass 12 = .ok (.iadd, 1) := by decide +kernel

