theorem dJ8_newLength_cabcc_0 : decode cJ8_newLength_cabcc 0 = .ok (.iload_n 0, 1) := by decide +kernel
theorem dJ8_newLength_cabcc_1 : decode cJ8_newLength_cabcc 1 = .ok (.iload_n 1, 1) := by decide +kernel
theorem dJ8_newLength_cabcc_2 : decode cJ8_newLength_cabcc 2 = .ok (.iload_n 2, 1) := by decide +kernel
theorem dJ8_newLength_cabcc_3 : decode cJ8_newLength_cabcc 3 = .ok (.invokestatic 194, 3) := by decide +kernel
theorem dJ8_newLength_cabcc_6 : decode cJ8_newLength_cabcc 6 = .ok (.iadd, 1) := by decide +kernel
theorem dJ8_newLength_cabcc_7 : decode cJ8_newLength_cabcc 7 = .ok (.istore_n 3, 1) := by decide +kernel
theorem dJ8_newLength_cabcc_8 : decode cJ8_newLength_cabcc 8 = .ok (.iconst 0, 1) := by decide +kernel
theorem dJ8_newLength_cabcc_9 : decode cJ8_newLength_cabcc 9 = .ok (.iload_n 3, 1) := by decide +kernel
theorem dJ8_newLength_cabcc_10 : decode cJ8_newLength_cabcc 10 = .ok (.if_icmp .ge 11, 3) := by decide +kernel
theorem dJ8_newLength_cabcc_13 : decode cJ8_newLength_cabcc 13 = .ok (.iload_n 3, 1) := by decide +kernel
theorem dJ8_newLength_cabcc_14 : decode cJ8_newLength_cabcc 14 = .ok (.ldc 200, 2) := by decide +kernel
theorem dJ8_newLength_cabcc_16 : decode cJ8_newLength_cabcc 16 = .ok (.if_icmp .gt 5, 3) := by decide +kernel
theorem dJ8_newLength_cabcc_19 : decode cJ8_newLength_cabcc 19 = .ok (.iload_n 3, 1) := by decide +kernel
theorem dJ8_newLength_cabcc_20 : decode cJ8_newLength_cabcc 20 = .ok (.ireturn, 1) := by decide +kernel
theorem dJ8_newLength_cabcc_21 : decode cJ8_newLength_cabcc 21 = .ok (.iload_n 0, 1) := by decide +kernel
theorem dJ8_newLength_cabcc_22 : decode cJ8_newLength_cabcc 22 = .ok (.iload_n 1, 1) := by decide +kernel
theorem dJ8_newLength_cabcc_23 : decode cJ8_newLength_cabcc 23 = .ok (.invokestatic 201, 3) := by decide +kernel
theorem dJ8_newLength_cabcc_26 : decode cJ8_newLength_cabcc 26 = .ok (.ireturn, 1) := by decide +kernel
theorem dJ8_hugeLength_7cf53_0 : decode cJ8_hugeLength_7cf53 0 = .ok (.iload_n 0, 1) := by decide +kernel
theorem dJ8_hugeLength_7cf53_1 : decode cJ8_hugeLength_7cf53 1 = .ok (.iload_n 1, 1) := by decide +kernel
theorem dJ8_hugeLength_7cf53_2 : decode cJ8_hugeLength_7cf53 2 = .ok (.iadd, 1) := by decide +kernel
theorem dJ8_hugeLength_7cf53_3 : decode cJ8_hugeLength_7cf53 3 = .ok (.istore_n 2, 1) := by decide +kernel
theorem dJ8_hugeLength_7cf53_4 : decode cJ8_hugeLength_7cf53 4 = .ok (.iload_n 2, 1) := by decide +kernel
theorem dJ8_hugeLength_7cf53_5 : decode cJ8_hugeLength_7cf53 5 = .ok (.ifCond .ge 44, 3) := by decide +kernel
theorem dJ8_hugeLength_7cf53_8 : decode cJ8_hugeLength_7cf53 8 = .ok (.new 204, 3) := by decide +kernel
theorem dJ8_hugeLength_7cf53_11 : decode cJ8_hugeLength_7cf53 11 = .ok (.dup, 1) := by decide +kernel
theorem dJ8_hugeLength_7cf53_12 : decode cJ8_hugeLength_7cf53 12 = .ok (.new 89, 3) := by decide +kernel
theorem dJ8_hugeLength_7cf53_15 : decode cJ8_hugeLength_7cf53 15 = .ok (.dup, 1) := by decide +kernel
theorem dJ8_hugeLength_7cf53_16 : decode cJ8_hugeLength_7cf53 16 = .ok (.invokespecial 91, 3) := by decide +kernel
theorem dJ8_hugeLength_7cf53_19 : decode cJ8_hugeLength_7cf53 19 = .ok (.ldc 206, 2) := by decide +kernel
theorem dJ8_hugeLength_7cf53_21 : decode cJ8_hugeLength_7cf53 21 = .ok (.invokevirtual 94, 3) := by decide +kernel
theorem dJ8_hugeLength_7cf53_24 : decode cJ8_hugeLength_7cf53 24 = .ok (.iload_n 0, 1) := by decide +kernel
theorem dJ8_hugeLength_7cf53_25 : decode cJ8_hugeLength_7cf53 25 = .ok (.invokevirtual 98, 3) := by decide +kernel
theorem dJ8_hugeLength_7cf53_28 : decode cJ8_hugeLength_7cf53 28 = .ok (.ldc 208, 2) := by decide +kernel
theorem dJ8_hugeLength_7cf53_30 : decode cJ8_hugeLength_7cf53 30 = .ok (.invokevirtual 94, 3) := by decide +kernel
theorem dJ8_hugeLength_7cf53_33 : decode cJ8_hugeLength_7cf53 33 = .ok (.iload_n 1, 1) := by decide +kernel
theorem dJ8_hugeLength_7cf53_34 : decode cJ8_hugeLength_7cf53 34 = .ok (.invokevirtual 98, 3) := by decide +kernel
theorem dJ8_hugeLength_7cf53_37 : decode cJ8_hugeLength_7cf53 37 = .ok (.ldc 210, 2) := by decide +kernel
theorem dJ8_hugeLength_7cf53_39 : decode cJ8_hugeLength_7cf53 39 = .ok (.invokevirtual 94, 3) := by decide +kernel
theorem dJ8_hugeLength_7cf53_42 : decode cJ8_hugeLength_7cf53 42 = .ok (.invokevirtual 101, 3) := by decide +kernel
theorem dJ8_hugeLength_7cf53_45 : decode cJ8_hugeLength_7cf53 45 = .ok (.invokespecial 212, 3) := by decide +kernel
theorem dJ8_hugeLength_7cf53_48 : decode cJ8_hugeLength_7cf53 48 = .ok (.athrow, 1) := by decide +kernel
theorem dJ8_hugeLength_7cf53_49 : decode cJ8_hugeLength_7cf53 49 = .ok (.iload_n 2, 1) := by decide +kernel
theorem dJ8_hugeLength_7cf53_50 : decode cJ8_hugeLength_7cf53 50 = .ok (.ldc 200, 2) := by decide +kernel
theorem dJ8_hugeLength_7cf53_52 : decode cJ8_hugeLength_7cf53 52 = .ok (.if_icmp .gt 6, 3) := by decide +kernel
theorem dJ8_hugeLength_7cf53_55 : decode cJ8_hugeLength_7cf53 55 = .ok (.ldc 200, 2) := by decide +kernel
theorem dJ8_hugeLength_7cf53_57 : decode cJ8_hugeLength_7cf53 57 = .ok (.ireturn, 1) := by decide +kernel
theorem dJ8_hugeLength_7cf53_58 : decode cJ8_hugeLength_7cf53 58 = .ok (.iload_n 2, 1) := by decide +kernel
theorem dJ8_hugeLength_7cf53_59 : decode cJ8_hugeLength_7cf53 59 = .ok (.ireturn, 1) := by decide +kernel
theorem dJ3_checkIndex_8e157_0 : decode cJ3_checkIndex_8e157 0 = .ok (.iload_n 0, 1) := by decide +kernel
theorem dJ3_checkIndex_8e157_1 : decode cJ3_checkIndex_8e157 1 = .ok (.ifCond .lt 8, 3) := by decide +kernel
theorem dJ3_checkIndex_8e157_4 : decode cJ3_checkIndex_8e157 4 = .ok (.iload_n 0, 1) := by decide +kernel
theorem dJ3_checkIndex_8e157_5 : decode cJ3_checkIndex_8e157 5 = .ok (.iload_n 1, 1) := by decide +kernel
theorem dJ3_checkIndex_8e157_6 : decode cJ3_checkIndex_8e157 6 = .ok (.if_icmp .lt 10, 3) := by decide +kernel
theorem dJ3_checkIndex_8e157_9 : decode cJ3_checkIndex_8e157 9 = .ok (.aload_n 2, 1) := by decide +kernel
theorem dJ3_checkIndex_8e157_10 : decode cJ3_checkIndex_8e157 10 = .ok (.iload_n 0, 1) := by decide +kernel
theorem dJ3_checkIndex_8e157_11 : decode cJ3_checkIndex_8e157 11 = .ok (.iload_n 1, 1) := by decide +kernel
theorem dJ3_checkIndex_8e157_12 : decode cJ3_checkIndex_8e157 12 = .ok (.invokestatic 95, 3) := by decide +kernel
theorem dJ3_checkIndex_8e157_15 : decode cJ3_checkIndex_8e157 15 = .ok (.athrow, 1) := by decide +kernel
theorem dJ3_checkIndex_8e157_16 : decode cJ3_checkIndex_8e157 16 = .ok (.iload_n 0, 1) := by decide +kernel
theorem dJ3_checkIndex_8e157_17 : decode cJ3_checkIndex_8e157 17 = .ok (.ireturn, 1) := by decide +kernel
theorem dJ3_checkFromToIndex_8c36e_0 : decode cJ3_checkFromToIndex_8c36e 0 = .ok (.iload_n 0, 1) := by decide +kernel
theorem dJ3_checkFromToIndex_8c36e_1 : decode cJ3_checkFromToIndex_8c36e 1 = .ok (.ifCond .lt 13, 3) := by decide +kernel
theorem dJ3_checkFromToIndex_8c36e_4 : decode cJ3_checkFromToIndex_8c36e 4 = .ok (.iload_n 0, 1) := by decide +kernel
theorem dJ3_checkFromToIndex_8c36e_5 : decode cJ3_checkFromToIndex_8c36e 5 = .ok (.iload_n 1, 1) := by decide +kernel
theorem dJ3_checkFromToIndex_8c36e_6 : decode cJ3_checkFromToIndex_8c36e 6 = .ok (.if_icmp .gt 8, 3) := by decide +kernel
theorem dJ3_checkFromToIndex_8c36e_9 : decode cJ3_checkFromToIndex_8c36e 9 = .ok (.iload_n 1, 1) := by decide +kernel
theorem dJ3_checkFromToIndex_8c36e_10 : decode cJ3_checkFromToIndex_8c36e 10 = .ok (.iload_n 2, 1) := by decide +kernel
theorem dJ3_checkFromToIndex_8c36e_11 : decode cJ3_checkFromToIndex_8c36e 11 = .ok (.if_icmp .le 11, 3) := by decide +kernel
theorem dJ3_checkFromToIndex_8c36e_14 : decode cJ3_checkFromToIndex_8c36e 14 = .ok (.aload_n 3, 1) := by decide +kernel
theorem dJ3_checkFromToIndex_8c36e_15 : decode cJ3_checkFromToIndex_8c36e 15 = .ok (.iload_n 0, 1) := by decide +kernel
theorem dJ3_checkFromToIndex_8c36e_16 : decode cJ3_checkFromToIndex_8c36e 16 = .ok (.iload_n 1, 1) := by decide +kernel
theorem dJ3_checkFromToIndex_8c36e_17 : decode cJ3_checkFromToIndex_8c36e 17 = .ok (.iload_n 2, 1) := by decide +kernel
theorem dJ3_checkFromToIndex_8c36e_18 : decode cJ3_checkFromToIndex_8c36e 18 = .ok (.invokestatic 99, 3) := by decide +kernel
theorem dJ3_checkFromToIndex_8c36e_21 : decode cJ3_checkFromToIndex_8c36e 21 = .ok (.athrow, 1) := by decide +kernel
theorem dJ3_checkFromToIndex_8c36e_22 : decode cJ3_checkFromToIndex_8c36e 22 = .ok (.iload_n 0, 1) := by decide +kernel
theorem dJ3_checkFromToIndex_8c36e_23 : decode cJ3_checkFromToIndex_8c36e 23 = .ok (.ireturn, 1) := by decide +kernel
theorem dJ3_checkFromIndexSize_8c36e_0 : decode cJ3_checkFromIndexSize_8c36e 0 = .ok (.iload_n 2, 1) := by decide +kernel
theorem dJ3_checkFromIndexSize_8c36e_1 : decode cJ3_checkFromIndexSize_8c36e 1 = .ok (.iload_n 0, 1) := by decide +kernel
theorem dJ3_checkFromIndexSize_8c36e_2 : decode cJ3_checkFromIndexSize_8c36e 2 = .ok (.ior, 1) := by decide +kernel
theorem dJ3_checkFromIndexSize_8c36e_3 : decode cJ3_checkFromIndexSize_8c36e 3 = .ok (.iload_n 1, 1) := by decide +kernel
theorem dJ3_checkFromIndexSize_8c36e_4 : decode cJ3_checkFromIndexSize_8c36e 4 = .ok (.ior, 1) := by decide +kernel
theorem dJ3_checkFromIndexSize_8c36e_5 : decode cJ3_checkFromIndexSize_8c36e 5 = .ok (.ifCond .lt 10, 3) := by decide +kernel
theorem dJ3_checkFromIndexSize_8c36e_8 : decode cJ3_checkFromIndexSize_8c36e 8 = .ok (.iload_n 1, 1) := by decide +kernel
theorem dJ3_checkFromIndexSize_8c36e_9 : decode cJ3_checkFromIndexSize_8c36e 9 = .ok (.iload_n 2, 1) := by decide +kernel
theorem dJ3_checkFromIndexSize_8c36e_10 : decode cJ3_checkFromIndexSize_8c36e 10 = .ok (.iload_n 0, 1) := by decide +kernel
theorem dJ3_checkFromIndexSize_8c36e_11 : decode cJ3_checkFromIndexSize_8c36e 11 = .ok (.isub, 1) := by decide +kernel
theorem dJ3_checkFromIndexSize_8c36e_12 : decode cJ3_checkFromIndexSize_8c36e 12 = .ok (.if_icmp .le 11, 3) := by decide +kernel
theorem dJ3_checkFromIndexSize_8c36e_15 : decode cJ3_checkFromIndexSize_8c36e 15 = .ok (.aload_n 3, 1) := by decide +kernel
theorem dJ3_checkFromIndexSize_8c36e_16 : decode cJ3_checkFromIndexSize_8c36e 16 = .ok (.iload_n 0, 1) := by decide +kernel
theorem dJ3_checkFromIndexSize_8c36e_17 : decode cJ3_checkFromIndexSize_8c36e 17 = .ok (.iload_n 1, 1) := by decide +kernel
theorem dJ3_checkFromIndexSize_8c36e_18 : decode cJ3_checkFromIndexSize_8c36e 18 = .ok (.iload_n 2, 1) := by decide +kernel
theorem dJ3_checkFromIndexSize_8c36e_19 : decode cJ3_checkFromIndexSize_8c36e 19 = .ok (.invokestatic 103, 3) := by decide +kernel
theorem dJ3_checkFromIndexSize_8c36e_22 : decode cJ3_checkFromIndexSize_8c36e 22 = .ok (.athrow, 1) := by decide +kernel
theorem dJ3_checkFromIndexSize_8c36e_23 : decode cJ3_checkFromIndexSize_8c36e 23 = .ok (.iload_n 0, 1) := by decide +kernel
theorem dJ3_checkFromIndexSize_8c36e_24 : decode cJ3_checkFromIndexSize_8c36e 24 = .ok (.ireturn, 1) := by decide +kernel
set_option maxRecDepth 20000 in
theorem ggL_charge_X7_charge : GoodIn wsL_charge wsX7_charge := goodIn_ca (goodIn_ca (goodIn_ca (goodIn_ca (goodIn_ca (goodIn_ca (goodIn_ca (goodIn_r _ [8, 9, 10, 11, 12, 7, 13, 14, 15, 16, 17, 18, 19, 20, 21, 22, 23, 24, 25, 26, 27, 28, 29, 30, 31, 32, 33, 34, 35, 36, 37, 38, 39, 40, 41, 42, 43, 44, 45, 46, 47, 48, 49, 50, 51, 52, 53, 54, 55, 56, 57, 58, 59, 60, 61, 62, 63, 64, 65, 66, 67, 68, 69, 70, 71, 72, 73, 74, 75, 76, 77, 78, 79, 80, 81, 82, 83, 84, 85, 86, 87, 88, 89, 90, 91, 92, 93, 94, 95, 96, 97, 98, 99, 100, 101, 102, 103, 104, 105, 106, 107, 108, 109, 110, 111, 112, 113, 114, 115, 116, 117, 118, 119, 120, 121, 122, 123, 124, 125, 126, 127, 128, 129, 130, 131, 132, 133, 134, 135, 136, 137, 138, 139, 140, 141, 142, 143, 144, 145, 146, 147, 148, 149, 150, 151, 152, 153, 154, 155, 156, 157, 158, 159, 160, 161, 162, 163, 164, 165, 166, 167, 168, 169, 170, 171, 172, 173, 174, 175, 176, 177, 178, 179, 180, 181, 182, 183, 184, 185, 186, 187, 188, 189, 190, 191, 192, 193, 194, 195, 196, 197, 198, 199, 200, 201, 202, 203, 204, 205, 206, 207, 208, 209, 210, 211, 212, 213, 214, 215, 216, 217, 218, 219, 220] (by decide +kernel) (by decide +kernel)) (goodIn_sub (fun _ h => List.mem_cons_of_mem _ (List.mem_append_left _ (List.mem_append_left _ (List.mem_append_left _ (List.mem_append_left _ (List.mem_append_left _ (List.mem_append_left _ (List.mem_append_right _ h)))))))) (by decide +kernel))) (goodIn_sub (fun _ h => List.mem_cons_of_mem _ (List.mem_append_left _ (List.mem_append_left _ (List.mem_append_left _ (List.mem_append_left _ (List.mem_append_left _ (List.mem_append_right _ h))))))) (by decide +kernel))) (goodIn_sub (fun _ h => List.mem_cons_of_mem _ (List.mem_append_left _ (List.mem_append_left _ (List.mem_append_left _ (List.mem_append_left _ (List.mem_append_right _ h)))))) (by decide +kernel))) (goodIn_sub (fun _ h => List.mem_cons_of_mem _ (List.mem_append_left _ (List.mem_append_left _ (List.mem_append_left _ (List.mem_append_right _ h))))) (by decide +kernel))) (goodIn_sub (fun _ h => List.mem_cons_of_mem _ (List.mem_append_left _ (List.mem_append_left _ (List.mem_append_right _ h)))) (by decide +kernel))) (goodIn_sub (fun _ h => List.mem_cons_of_mem _ (List.mem_append_left _ (List.mem_append_right _ h))) (by decide +kernel))) (goodIn_sub (fun _ h => List.mem_cons_of_mem _ (List.mem_append_right _ h)) (by decide +kernel))
set_option maxRecDepth 20000 in
theorem gL_charge_X7_charge : GoodIn wsL_charge (wsV RL 7 RX7 yX7_charge wsX7_charge) := goodIn_app (goodIn_of _ (by decide +kernel)) ggL_charge_X7_charge
theorem dL_charge_0 : decode cL_charge 0 = .ok (.aload 4, 2) := by decide +kernel
theorem dL_charge_2 : decode cL_charge 2 = .ok (.iconst 0, 1) := by decide +kernel
theorem dL_charge_3 : decode cL_charge 3 = .ok (.aload_n 0, 1) := by decide +kernel
theorem dL_charge_4 : decode cL_charge 4 = .ok (.iload_n 1, 1) := by decide +kernel
theorem dL_charge_5 : decode cL_charge 5 = .ok (.iload_n 2, 1) := by decide +kernel
theorem dL_charge_6 : decode cL_charge 6 = .ok (.iload_n 3, 1) := by decide +kernel
theorem dL_charge_7 : decode cL_charge 7 = .ok (.invokevirtual 7, 3) := by decide +kernel
theorem dL_charge_10 : decode cL_charge 10 = .ok (.i2l, 1) := by decide +kernel
theorem dL_charge_11 : decode cL_charge 11 = .ok (.lastore, 1) := by decide +kernel
theorem dL_charge_12 : decode cL_charge 12 = .ok (.goto 15, 3) := by decide +kernel
theorem dL_charge_15 : decode cL_charge 15 = .ok (.astore 5, 2) := by decide +kernel
theorem dL_charge_17 : decode cL_charge 17 = .ok (.iconst 1, 1) := by decide +kernel
theorem dL_charge_18 : decode cL_charge 18 = .ok (.ireturn, 1) := by decide +kernel
theorem dL_charge_19 : decode cL_charge 19 = .ok (.astore 5, 2) := by decide +kernel
theorem dL_charge_21 : decode cL_charge 21 = .ok (.iconst 2, 1) := by decide +kernel
theorem dL_charge_22 : decode cL_charge 22 = .ok (.ireturn, 1) := by decide +kernel
theorem dL_charge_23 : decode cL_charge 23 = .ok (.astore 5, 2) := by decide +kernel
theorem dL_charge_25 : decode cL_charge 25 = .ok (.iconst 3, 1) := by decide +kernel
theorem dL_charge_26 : decode cL_charge 26 = .ok (.ireturn, 1) := by decide +kernel
theorem dL_charge_27 : decode cL_charge 27 = .ok (.iconst 0, 1) := by decide +kernel
theorem dL_charge_28 : decode cL_charge 28 = .ok (.ireturn, 1) := by decide +kernel
set_option maxRecDepth 20000 in
theorem ggL_setFire_X7_setFire : GoodIn wsL_setFire wsX7_setFire := goodIn_ca (goodIn_ca (goodIn_ca (goodIn_ca (goodIn_ca (goodIn_ca (goodIn_ca (goodIn_r _ [7, 8, 9, 10, 11, 6, 12, 13, 14, 15, 16, 17, 18, 19, 20, 21, 22, 23, 24, 25, 26, 27, 28, 29, 30, 31, 32, 33, 34, 35, 36, 37, 38, 39, 40, 41, 42, 43, 44, 45, 46, 47, 48, 49, 50, 51, 52, 53, 54, 55, 56, 57, 58, 59, 60, 61, 62, 63, 64, 65, 66, 67, 68, 69, 70, 71, 72, 73, 74, 75, 76, 77, 78, 79, 80, 81, 82, 83, 84, 85, 86, 87, 88, 89, 90, 91, 92, 93, 94, 95, 96, 97, 98, 99, 100, 101, 102, 103, 104, 105, 106, 107, 108, 109, 110, 111, 112, 113, 114, 115, 116, 117, 118, 119, 120, 121, 122, 123, 124, 125, 126, 127, 128, 129, 130, 131, 132, 133, 134, 135, 136, 137, 138, 139, 140, 141, 142, 143, 144, 145, 146, 147, 148, 149, 150, 151, 152, 153, 154, 155, 156, 157, 158, 159, 160, 161, 162, 163, 164, 165, 166, 167, 168, 169, 170, 171, 172, 173, 174, 175, 176, 177, 178, 179, 180, 181, 182, 183, 184, 185, 186, 187, 188, 189, 190, 191, 192, 193, 194, 195, 196, 197, 198, 199, 200, 201, 202, 203, 204, 205, 206, 207, 208, 209, 210, 211, 212, 213, 214, 215, 216, 217, 218, 219] (by decide +kernel) (by decide +kernel)) (goodIn_sub (fun _ h => List.mem_cons_of_mem _ (List.mem_append_left _ (List.mem_append_left _ (List.mem_append_left _ (List.mem_append_left _ (List.mem_append_left _ (List.mem_append_left _ (List.mem_append_right _ h)))))))) (by decide +kernel))) (goodIn_sub (fun _ h => List.mem_cons_of_mem _ (List.mem_append_left _ (List.mem_append_left _ (List.mem_append_left _ (List.mem_append_left _ (List.mem_append_left _ (List.mem_append_right _ h))))))) (by decide +kernel))) (goodIn_sub (fun _ h => List.mem_cons_of_mem _ (List.mem_append_left _ (List.mem_append_left _ (List.mem_append_left _ (List.mem_append_left _ (List.mem_append_right _ h)))))) (by decide +kernel))) (goodIn_sub (fun _ h => List.mem_cons_of_mem _ (List.mem_append_left _ (List.mem_append_left _ (List.mem_append_left _ (List.mem_append_right _ h))))) (by decide +kernel))) (goodIn_sub (fun _ h => List.mem_cons_of_mem _ (List.mem_append_left _ (List.mem_append_left _ (List.mem_append_right _ h)))) (by decide +kernel))) (goodIn_sub (fun _ h => List.mem_cons_of_mem _ (List.mem_append_left _ (List.mem_append_right _ h))) (by decide +kernel))) (goodIn_sub (fun _ h => List.mem_cons_of_mem _ (List.mem_append_right _ h)) (by decide +kernel))
set_option maxRecDepth 20000 in
theorem gL_setFire_X7_setFire : GoodIn wsL_setFire (wsV RL 19 RX7 yX7_setFire wsX7_setFire) := goodIn_app (goodIn_of _ (by decide +kernel)) ggL_setFire_X7_setFire
theorem dL_setFire_0 : decode cL_setFire 0 = .ok (.aload_n 3, 1) := by decide +kernel
theorem dL_setFire_1 : decode cL_setFire 1 = .ok (.iconst 0, 1) := by decide +kernel
theorem dL_setFire_2 : decode cL_setFire 2 = .ok (.aload_n 0, 1) := by decide +kernel
theorem dL_setFire_3 : decode cL_setFire 3 = .ok (.iload_n 1, 1) := by decide +kernel
theorem dL_setFire_4 : decode cL_setFire 4 = .ok (.iload_n 2, 1) := by decide +kernel
theorem dL_setFire_5 : decode cL_setFire 5 = .ok (.invokevirtual 19, 3) := by decide +kernel
theorem dL_setFire_8 : decode cL_setFire 8 = .ok (.i2l, 1) := by decide +kernel
theorem dL_setFire_9 : decode cL_setFire 9 = .ok (.lastore, 1) := by decide +kernel
theorem dL_setFire_10 : decode cL_setFire 10 = .ok (.goto 11, 3) := by decide +kernel
theorem dL_setFire_13 : decode cL_setFire 13 = .ok (.astore 4, 2) := by decide +kernel
theorem dL_setFire_15 : decode cL_setFire 15 = .ok (.iconst 1, 1) := by decide +kernel
theorem dL_setFire_16 : decode cL_setFire 16 = .ok (.ireturn, 1) := by decide +kernel
theorem dL_setFire_17 : decode cL_setFire 17 = .ok (.astore 4, 2) := by decide +kernel
theorem dL_setFire_19 : decode cL_setFire 19 = .ok (.iconst 2, 1) := by decide +kernel
theorem dL_setFire_20 : decode cL_setFire 20 = .ok (.ireturn, 1) := by decide +kernel
theorem dL_setFire_21 : decode cL_setFire 21 = .ok (.iconst 0, 1) := by decide +kernel
theorem dL_setFire_22 : decode cL_setFire 22 = .ok (.ireturn, 1) := by decide +kernel
set_option maxRecDepth 20000 in
theorem ggL_skim_X7_skim : GoodIn wsL_skim wsX7_skim := goodIn_ca (goodIn_ca (goodIn_ca (goodIn_ca (goodIn_ca (goodIn_ca (goodIn_ca (goodIn_r _ [8, 9, 10, 11, 12, 7, 13, 14, 15, 16, 17, 18, 19, 20, 21, 22, 23, 24, 25, 26, 27, 28, 29, 30, 31, 32, 33, 34, 35, 36, 37, 38, 39, 40, 41, 42, 43, 44, 45, 46, 47, 48, 49, 50, 51, 52, 53, 54, 55, 56, 57, 58, 59, 60, 61, 62, 63, 64, 65, 66, 67, 68, 69, 70, 71, 72, 73, 74, 75, 76, 77, 78, 79, 80, 81, 82, 83, 84, 85, 86, 87, 88, 89, 90, 91, 92, 93, 94, 95, 96, 97, 98, 99, 100, 101, 102, 103, 104, 105, 106, 107, 108, 109, 110, 111, 112, 113, 114, 115, 116, 117, 118, 119, 120, 121, 122, 123, 124, 125, 126, 127, 128, 129, 130, 131, 132, 133, 134, 135, 136, 137, 138, 139, 140, 141, 142, 143, 144, 145, 146, 147, 148, 149, 150, 151, 152, 153, 154, 155, 156, 157, 158, 159, 160, 161, 162, 163, 164, 165, 166, 167, 168, 169, 170, 171, 172, 173, 174, 175, 176, 177, 178, 179, 180, 181, 182, 183, 184, 185, 186, 187, 188, 189, 190, 191, 192, 193, 194, 195, 196, 197, 198, 199, 200, 201, 202, 203, 204, 205, 206, 207, 208, 209, 210, 211, 212, 213, 214, 215, 216, 217, 218, 219, 220] (by decide +kernel) (by decide +kernel)) (goodIn_sub (fun _ h => List.mem_cons_of_mem _ (List.mem_append_left _ (List.mem_append_left _ (List.mem_append_left _ (List.mem_append_left _ (List.mem_append_left _ (List.mem_append_left _ (List.mem_append_right _ h)))))))) (by decide +kernel))) (goodIn_sub (fun _ h => List.mem_cons_of_mem _ (List.mem_append_left _ (List.mem_append_left _ (List.mem_append_left _ (List.mem_append_left _ (List.mem_append_left _ (List.mem_append_right _ h))))))) (by decide +kernel))) (goodIn_sub (fun _ h => List.mem_cons_of_mem _ (List.mem_append_left _ (List.mem_append_left _ (List.mem_append_left _ (List.mem_append_left _ (List.mem_append_right _ h)))))) (by decide +kernel))) (goodIn_sub (fun _ h => List.mem_cons_of_mem _ (List.mem_append_left _ (List.mem_append_left _ (List.mem_append_left _ (List.mem_append_right _ h))))) (by decide +kernel))) (goodIn_sub (fun _ h => List.mem_cons_of_mem _ (List.mem_append_left _ (List.mem_append_left _ (List.mem_append_right _ h)))) (by decide +kernel))) (goodIn_sub (fun _ h => List.mem_cons_of_mem _ (List.mem_append_left _ (List.mem_append_right _ h))) (by decide +kernel))) (goodIn_sub (fun _ h => List.mem_cons_of_mem _ (List.mem_append_right _ h)) (by decide +kernel))
set_option maxRecDepth 20000 in
theorem gL_skim_X7_skim : GoodIn wsL_skim (wsV RL 23 RX7 yX7_skim wsX7_skim) := goodIn_app (goodIn_of _ (by decide +kernel)) ggL_skim_X7_skim
theorem dL_skim_0 : decode cL_skim 0 = .ok (.aload_n 2, 1) := by decide +kernel
theorem dL_skim_1 : decode cL_skim 1 = .ok (.iconst 0, 1) := by decide +kernel
theorem dL_skim_2 : decode cL_skim 2 = .ok (.aload_n 0, 1) := by decide +kernel
theorem dL_skim_3 : decode cL_skim 3 = .ok (.iload_n 1, 1) := by decide +kernel
theorem dL_skim_4 : decode cL_skim 4 = .ok (.invokevirtual 23, 3) := by decide +kernel
theorem dL_skim_7 : decode cL_skim 7 = .ok (.i2l, 1) := by decide +kernel
theorem dL_skim_8 : decode cL_skim 8 = .ok (.lastore, 1) := by decide +kernel
theorem dL_skim_9 : decode cL_skim 9 = .ok (.goto 12, 3) := by decide +kernel
theorem dL_skim_12 : decode cL_skim 12 = .ok (.astore_n 3, 1) := by decide +kernel
theorem dL_skim_13 : decode cL_skim 13 = .ok (.iconst 1, 1) := by decide +kernel
theorem dL_skim_14 : decode cL_skim 14 = .ok (.ireturn, 1) := by decide +kernel
theorem dL_skim_15 : decode cL_skim 15 = .ok (.astore_n 3, 1) := by decide +kernel
theorem dL_skim_16 : decode cL_skim 16 = .ok (.iconst 2, 1) := by decide +kernel
theorem dL_skim_17 : decode cL_skim 17 = .ok (.ireturn, 1) := by decide +kernel
theorem dL_skim_18 : decode cL_skim 18 = .ok (.astore_n 3, 1) := by decide +kernel
theorem dL_skim_19 : decode cL_skim 19 = .ok (.iconst 3, 1) := by decide +kernel
theorem dL_skim_20 : decode cL_skim 20 = .ok (.ireturn, 1) := by decide +kernel
theorem dL_skim_21 : decode cL_skim 21 = .ok (.iconst 0, 1) := by decide +kernel
theorem dL_skim_22 : decode cL_skim 22 = .ok (.ireturn, 1) := by decide +kernel
set_option maxRecDepth 20000 in
theorem ggL_tap_X7_tap : GoodIn wsL_tap wsX7_tap := goodIn_ca (goodIn_ca (goodIn_ca (goodIn_ca (goodIn_ca (goodIn_ca (goodIn_ca (goodIn_r _ [10, 11, 12, 13, 14, 9, 15, 16, 17, 18, 19, 20, 21, 22, 23, 24, 25, 26, 27, 28, 29, 30, 31, 32, 33, 34, 35, 36, 37, 38, 39, 40, 41, 42, 43, 44, 45, 46, 47, 48, 49, 50, 51, 52, 53, 54, 55, 56, 57, 58, 59, 60, 61, 62, 63, 64, 65, 66, 67, 68, 69, 70, 71, 72, 73, 74, 75, 76, 77, 78, 79, 80, 81, 82, 83, 84, 85, 86, 87, 88, 89, 90, 91, 92, 93, 94, 95, 96, 97, 98, 99, 100, 101, 102, 103, 104, 105, 106, 107, 108, 109, 110, 111, 112, 113, 114, 115, 116, 117, 118, 119, 120, 121, 122, 123, 124, 125, 126, 127, 128, 129, 130, 131, 132, 133, 134, 135, 136, 137, 138, 139, 140, 141, 142, 143, 144, 145, 146, 147, 148, 149, 150, 151, 152, 153, 154, 155, 156, 157, 158, 159, 160, 161, 162, 163, 164, 165, 166, 167, 168, 169, 170, 171, 172, 173, 174, 175, 176, 177, 178, 179, 180, 181, 182, 183, 184, 185, 186, 187, 188, 189, 190, 191, 192, 193, 194, 195, 196, 197, 198, 199, 200, 201, 202, 203, 204, 205, 206, 207, 208, 209, 210, 211, 212, 213, 214, 215, 216, 217, 218, 219, 220, 221, 222] (by decide +kernel) (by decide +kernel)) (goodIn_sub (fun _ h => List.mem_cons_of_mem _ (List.mem_append_left _ (List.mem_append_left _ (List.mem_append_left _ (List.mem_append_left _ (List.mem_append_left _ (List.mem_append_left _ (List.mem_append_right _ h)))))))) (by decide +kernel))) (goodIn_sub (fun _ h => List.mem_cons_of_mem _ (List.mem_append_left _ (List.mem_append_left _ (List.mem_append_left _ (List.mem_append_left _ (List.mem_append_left _ (List.mem_append_right _ h))))))) (by decide +kernel))) (goodIn_sub (fun _ h => List.mem_cons_of_mem _ (List.mem_append_left _ (List.mem_append_left _ (List.mem_append_left _ (List.mem_append_left _ (List.mem_append_right _ h)))))) (by decide +kernel))) (goodIn_sub (fun _ h => List.mem_cons_of_mem _ (List.mem_append_left _ (List.mem_append_left _ (List.mem_append_left _ (List.mem_append_right _ h))))) (by decide +kernel))) (goodIn_sub (fun _ h => List.mem_cons_of_mem _ (List.mem_append_left _ (List.mem_append_left _ (List.mem_append_right _ h)))) (by decide +kernel))) (goodIn_sub (fun _ h => List.mem_cons_of_mem _ (List.mem_append_left _ (List.mem_append_right _ h))) (by decide +kernel))) (goodIn_sub (fun _ h => List.mem_cons_of_mem _ (List.mem_append_right _ h)) (by decide +kernel))
set_option maxRecDepth 20000 in
theorem gL_tap_X7_tap : GoodIn wsL_tap (wsV RL 31 RX7 yX7_tap wsX7_tap) := goodIn_app (goodIn_of _ (by decide +kernel)) ggL_tap_X7_tap
theorem dL_tap_0 : decode cL_tap 0 = .ok (.aload 4, 2) := by decide +kernel
theorem dL_tap_2 : decode cL_tap 2 = .ok (.iconst 0, 1) := by decide +kernel
theorem dL_tap_3 : decode cL_tap 3 = .ok (.aload_n 0, 1) := by decide +kernel
theorem dL_tap_4 : decode cL_tap 4 = .ok (.iload_n 1, 1) := by decide +kernel
theorem dL_tap_5 : decode cL_tap 5 = .ok (.iload_n 2, 1) := by decide +kernel
theorem dL_tap_6 : decode cL_tap 6 = .ok (.iload_n 3, 1) := by decide +kernel
theorem dL_tap_7 : decode cL_tap 7 = .ok (.invokevirtual 31, 3) := by decide +kernel
theorem dL_tap_10 : decode cL_tap 10 = .ok (.i2l, 1) := by decide +kernel
theorem dL_tap_11 : decode cL_tap 11 = .ok (.lastore, 1) := by decide +kernel
theorem dL_tap_12 : decode cL_tap 12 = .ok (.goto 23, 3) := by decide +kernel
theorem dL_tap_15 : decode cL_tap 15 = .ok (.astore 5, 2) := by decide +kernel
theorem dL_tap_17 : decode cL_tap 17 = .ok (.iconst 1, 1) := by decide +kernel
theorem dL_tap_18 : decode cL_tap 18 = .ok (.ireturn, 1) := by decide +kernel
theorem dL_tap_19 : decode cL_tap 19 = .ok (.astore 5, 2) := by decide +kernel
theorem dL_tap_21 : decode cL_tap 21 = .ok (.iconst 2, 1) := by decide +kernel
theorem dL_tap_22 : decode cL_tap 22 = .ok (.ireturn, 1) := by decide +kernel
theorem dL_tap_23 : decode cL_tap 23 = .ok (.astore 5, 2) := by decide +kernel
theorem dL_tap_25 : decode cL_tap 25 = .ok (.iconst 3, 1) := by decide +kernel
theorem dL_tap_26 : decode cL_tap 26 = .ok (.ireturn, 1) := by decide +kernel
theorem dL_tap_27 : decode cL_tap 27 = .ok (.astore 5, 2) := by decide +kernel
theorem dL_tap_29 : decode cL_tap 29 = .ok (.iconst 4, 1) := by decide +kernel
theorem dL_tap_30 : decode cL_tap 30 = .ok (.ireturn, 1) := by decide +kernel
theorem dL_tap_31 : decode cL_tap 31 = .ok (.astore 5, 2) := by decide +kernel
theorem dL_tap_33 : decode cL_tap 33 = .ok (.iconst 5, 1) := by decide +kernel
theorem dL_tap_34 : decode cL_tap 34 = .ok (.ireturn, 1) := by decide +kernel
theorem dL_tap_35 : decode cL_tap 35 = .ok (.iconst 0, 1) := by decide +kernel
theorem dL_tap_36 : decode cL_tap 36 = .ok (.ireturn, 1) := by decide +kernel
set_option maxRecDepth 20000 in
theorem ggL_pourBack_X7_pourBack : GoodIn wsL_pourBack wsX7_pourBack := goodIn_ca (goodIn_ca (goodIn_ca (goodIn_ca (goodIn_ca (goodIn_ca (goodIn_ca (goodIn_r _ [8, 9, 10, 11, 12, 7, 13, 14, 15, 16, 17, 18, 19, 20, 21, 22, 23, 24, 25, 26, 27, 28, 29, 30, 31, 32, 33, 34, 35, 36, 37, 38, 39, 40, 41, 42, 43, 44, 45, 46, 47, 48, 49, 50, 51, 52, 53, 54, 55, 56, 57, 58, 59, 60, 61, 62, 63, 64, 65, 66, 67, 68, 69, 70, 71, 72, 73, 74, 75, 76, 77, 78, 79, 80, 81, 82, 83, 84, 85, 86, 87, 88, 89, 90, 91, 92, 93, 94, 95, 96, 97, 98, 99, 100, 101, 102, 103, 104, 105, 106, 107, 108, 109, 110, 111, 112, 113, 114, 115, 116, 117, 118, 119, 120, 121, 122, 123, 124, 125, 126, 127, 128, 129, 130, 131, 132, 133, 134, 135, 136, 137, 138, 139, 140, 141, 142, 143, 144, 145, 146, 147, 148, 149, 150, 151, 152, 153, 154, 155, 156, 157, 158, 159, 160, 161, 162, 163, 164, 165, 166, 167, 168, 169, 170, 171, 172, 173, 174, 175, 176, 177, 178, 179, 180, 181, 182, 183, 184, 185, 186, 187, 188, 189, 190, 191, 192, 193, 194, 195, 196, 197, 198, 199, 200, 201, 202, 203, 204, 205, 206, 207, 208, 209, 210, 211, 212, 213, 214, 215, 216, 217, 218, 219, 220] (by decide +kernel) (by decide +kernel)) (goodIn_sub (fun _ h => List.mem_cons_of_mem _ (List.mem_append_left _ (List.mem_append_left _ (List.mem_append_left _ (List.mem_append_left _ (List.mem_append_left _ (List.mem_append_left _ (List.mem_append_right _ h)))))))) (by decide +kernel))) (goodIn_sub (fun _ h => List.mem_cons_of_mem _ (List.mem_append_left _ (List.mem_append_left _ (List.mem_append_left _ (List.mem_append_left _ (List.mem_append_left _ (List.mem_append_right _ h))))))) (by decide +kernel))) (goodIn_sub (fun _ h => List.mem_cons_of_mem _ (List.mem_append_left _ (List.mem_append_left _ (List.mem_append_left _ (List.mem_append_left _ (List.mem_append_right _ h)))))) (by decide +kernel))) (goodIn_sub (fun _ h => List.mem_cons_of_mem _ (List.mem_append_left _ (List.mem_append_left _ (List.mem_append_left _ (List.mem_append_right _ h))))) (by decide +kernel))) (goodIn_sub (fun _ h => List.mem_cons_of_mem _ (List.mem_append_left _ (List.mem_append_left _ (List.mem_append_right _ h)))) (by decide +kernel))) (goodIn_sub (fun _ h => List.mem_cons_of_mem _ (List.mem_append_left _ (List.mem_append_right _ h))) (by decide +kernel))) (goodIn_sub (fun _ h => List.mem_cons_of_mem _ (List.mem_append_right _ h)) (by decide +kernel))
set_option maxRecDepth 20000 in
theorem gL_pourBack_X7_pourBack : GoodIn wsL_pourBack (wsV RL 35 RX7 yX7_pourBack wsX7_pourBack) := goodIn_app (goodIn_of _ (by decide +kernel)) ggL_pourBack_X7_pourBack
theorem dL_pourBack_0 : decode cL_pourBack 0 = .ok (.aload_n 3, 1) := by decide +kernel
theorem dL_pourBack_1 : decode cL_pourBack 1 = .ok (.iconst 0, 1) := by decide +kernel
theorem dL_pourBack_2 : decode cL_pourBack 2 = .ok (.aload_n 0, 1) := by decide +kernel
theorem dL_pourBack_3 : decode cL_pourBack 3 = .ok (.iload_n 1, 1) := by decide +kernel
theorem dL_pourBack_4 : decode cL_pourBack 4 = .ok (.iload_n 2, 1) := by decide +kernel
theorem dL_pourBack_5 : decode cL_pourBack 5 = .ok (.invokevirtual 35, 3) := by decide +kernel
theorem dL_pourBack_8 : decode cL_pourBack 8 = .ok (.i2l, 1) := by decide +kernel
theorem dL_pourBack_9 : decode cL_pourBack 9 = .ok (.lastore, 1) := by decide +kernel
theorem dL_pourBack_10 : decode cL_pourBack 10 = .ok (.goto 15, 3) := by decide +kernel
theorem dL_pourBack_13 : decode cL_pourBack 13 = .ok (.astore 4, 2) := by decide +kernel
theorem dL_pourBack_15 : decode cL_pourBack 15 = .ok (.iconst 1, 1) := by decide +kernel
theorem dL_pourBack_16 : decode cL_pourBack 16 = .ok (.ireturn, 1) := by decide +kernel
theorem dL_pourBack_17 : decode cL_pourBack 17 = .ok (.astore 4, 2) := by decide +kernel
theorem dL_pourBack_19 : decode cL_pourBack 19 = .ok (.iconst 2, 1) := by decide +kernel
theorem dL_pourBack_20 : decode cL_pourBack 20 = .ok (.ireturn, 1) := by decide +kernel
theorem dL_pourBack_21 : decode cL_pourBack 21 = .ok (.astore 4, 2) := by decide +kernel
theorem dL_pourBack_23 : decode cL_pourBack 23 = .ok (.iconst 3, 1) := by decide +kernel
theorem dL_pourBack_24 : decode cL_pourBack 24 = .ok (.ireturn, 1) := by decide +kernel
theorem dL_pourBack_25 : decode cL_pourBack 25 = .ok (.iconst 0, 1) := by decide +kernel
theorem dL_pourBack_26 : decode cL_pourBack 26 = .ok (.ireturn, 1) := by decide +kernel
set_option maxRecDepth 20000 in
theorem ggL_addMould_X7_addMould : GoodIn wsL_addMould wsX7_addMould := goodIn_ca (goodIn_ca (goodIn_ca (goodIn_ca (goodIn_ca (goodIn_ca (goodIn_ca (goodIn_r _ [7, 8, 9, 10, 11, 6, 12, 13, 14, 15, 16, 17, 18, 19, 20, 21, 22, 23, 24, 25, 26, 27, 28, 29, 30, 31, 32, 33, 34, 35, 36, 37, 38, 39, 40, 41, 42, 43, 44, 45, 46, 47, 48, 49, 50, 51, 52, 53, 54, 55, 56, 57, 58, 59, 60, 61, 62, 63, 64, 65, 66, 67, 68, 69, 70, 71, 72, 73, 74, 75, 76, 77, 78, 79, 80, 81, 82, 83, 84, 85, 86, 87, 88, 89, 90, 91, 92, 93, 94, 95, 96, 97, 98, 99, 100, 101, 102, 103, 104, 105, 106, 107, 108, 109, 110, 111, 112, 113, 114, 115, 116, 117, 118, 119, 120, 121, 122, 123, 124, 125, 126, 127, 128, 129, 130, 131, 132, 133, 134, 135, 136, 137, 138, 139, 140, 141, 142, 143, 144, 145, 146, 147, 148, 149, 150, 151, 152, 153, 154, 155, 156, 157, 158, 159, 160, 161, 162, 163, 164, 165, 166, 167, 168, 169, 170, 171, 172, 173, 174, 175, 176, 177, 178, 179, 180, 181, 182, 183, 184, 185, 186, 187, 188, 189, 190, 191, 192, 193, 194, 195, 196, 197, 198, 199, 200, 201, 202, 203, 204, 205, 206, 207, 208, 209, 210, 211, 212, 213, 214, 215, 216, 217, 218, 219] (by decide +kernel) (by decide +kernel)) (goodIn_sub (fun _ h => List.mem_cons_of_mem _ (List.mem_append_left _ (List.mem_append_left _ (List.mem_append_left _ (List.mem_append_left _ (List.mem_append_left _ (List.mem_append_left _ (List.mem_append_right _ h)))))))) (by decide +kernel))) (goodIn_sub (fun _ h => List.mem_cons_of_mem _ (List.mem_append_left _ (List.mem_append_left _ (List.mem_append_left _ (List.mem_append_left _ (List.mem_append_left _ (List.mem_append_right _ h))))))) (by decide +kernel))) (goodIn_sub (fun _ h => List.mem_cons_of_mem _ (List.mem_append_left _ (List.mem_append_left _ (List.mem_append_left _ (List.mem_append_left _ (List.mem_append_right _ h)))))) (by decide +kernel))) (goodIn_sub (fun _ h => List.mem_cons_of_mem _ (List.mem_append_left _ (List.mem_append_left _ (List.mem_append_left _ (List.mem_append_right _ h))))) (by decide +kernel))) (goodIn_sub (fun _ h => List.mem_cons_of_mem _ (List.mem_append_left _ (List.mem_append_left _ (List.mem_append_right _ h)))) (by decide +kernel))) (goodIn_sub (fun _ h => List.mem_cons_of_mem _ (List.mem_append_left _ (List.mem_append_right _ h))) (by decide +kernel))) (goodIn_sub (fun _ h => List.mem_cons_of_mem _ (List.mem_append_right _ h)) (by decide +kernel))
set_option maxRecDepth 20000 in
theorem gL_addMould_X7_addMould : GoodIn wsL_addMould (wsV RL 38 RX7 yX7_addMould wsX7_addMould) := goodIn_app (goodIn_of _ (by decide +kernel)) ggL_addMould_X7_addMould
theorem dL_addMould_0 : decode cL_addMould 0 = .ok (.aload_n 2, 1) := by decide +kernel
theorem dL_addMould_1 : decode cL_addMould 1 = .ok (.iconst 0, 1) := by decide +kernel
theorem dL_addMould_2 : decode cL_addMould 2 = .ok (.aload_n 0, 1) := by decide +kernel
theorem dL_addMould_3 : decode cL_addMould 3 = .ok (.iload_n 1, 1) := by decide +kernel
theorem dL_addMould_4 : decode cL_addMould 4 = .ok (.invokevirtual 38, 3) := by decide +kernel
theorem dL_addMould_7 : decode cL_addMould 7 = .ok (.i2l, 1) := by decide +kernel
theorem dL_addMould_8 : decode cL_addMould 8 = .ok (.lastore, 1) := by decide +kernel
theorem dL_addMould_9 : decode cL_addMould 9 = .ok (.goto 9, 3) := by decide +kernel
theorem dL_addMould_12 : decode cL_addMould 12 = .ok (.astore_n 3, 1) := by decide +kernel
theorem dL_addMould_13 : decode cL_addMould 13 = .ok (.iconst 1, 1) := by decide +kernel
theorem dL_addMould_14 : decode cL_addMould 14 = .ok (.ireturn, 1) := by decide +kernel
theorem dL_addMould_15 : decode cL_addMould 15 = .ok (.astore_n 3, 1) := by decide +kernel
theorem dL_addMould_16 : decode cL_addMould 16 = .ok (.iconst 2, 1) := by decide +kernel
theorem dL_addMould_17 : decode cL_addMould 17 = .ok (.ireturn, 1) := by decide +kernel
theorem dL_addMould_18 : decode cL_addMould 18 = .ok (.iconst 0, 1) := by decide +kernel
theorem dL_addMould_19 : decode cL_addMould 19 = .ok (.ireturn, 1) := by decide +kernel
set_option maxRecDepth 20000 in
theorem ggL_pour_X7_pour : GoodIn wsL_pour wsX7_pour := goodIn_ca (goodIn_ca (goodIn_ca (goodIn_ca (goodIn_ca (goodIn_ca (goodIn_ca (goodIn_r _ [9, 10, 11, 12, 13, 8, 14, 15, 16, 17, 18, 19, 20, 21, 22, 23, 24, 25, 26, 27, 28, 29, 30, 31, 32, 33, 34, 35, 36, 37, 38, 39, 40, 41, 42, 43, 44, 45, 46, 47, 48, 49, 50, 51, 52, 53, 54, 55, 56, 57, 58, 59, 60, 61, 62, 63, 64, 65, 66, 67, 68, 69, 70, 71, 72, 73, 74, 75, 76, 77, 78, 79, 80, 81, 82, 83, 84, 85, 86, 87, 88, 89, 90, 91, 92, 93, 94, 95, 96, 97, 98, 99, 100, 101, 102, 103, 104, 105, 106, 107, 108, 109, 110, 111, 112, 113, 114, 115, 116, 117, 118, 119, 120, 121, 122, 123, 124, 125, 126, 127, 128, 129, 130, 131, 132, 133, 134, 135, 136, 137, 138, 139, 140, 141, 142, 143, 144, 145, 146, 147, 148, 149, 150, 151, 152, 153, 154, 155, 156, 157, 158, 159, 160, 161, 162, 163, 164, 165, 166, 167, 168, 169, 170, 171, 172, 173, 174, 175, 176, 177, 178, 179, 180, 181, 182, 183, 184, 185, 186, 187, 188, 189, 190, 191, 192, 193, 194, 195, 196, 197, 198, 199, 200, 201, 202, 203, 204, 205, 206, 207, 208, 209, 210, 211, 212, 213, 214, 215, 216, 217, 218, 219, 220, 221] (by decide +kernel) (by decide +kernel)) (goodIn_sub (fun _ h => List.mem_cons_of_mem _ (List.mem_append_left _ (List.mem_append_left _ (List.mem_append_left _ (List.mem_append_left _ (List.mem_append_left _ (List.mem_append_left _ (List.mem_append_right _ h)))))))) (by decide +kernel))) (goodIn_sub (fun _ h => List.mem_cons_of_mem _ (List.mem_append_left _ (List.mem_append_left _ (List.mem_append_left _ (List.mem_append_left _ (List.mem_append_left _ (List.mem_append_right _ h))))))) (by decide +kernel))) (goodIn_sub (fun _ h => List.mem_cons_of_mem _ (List.mem_append_left _ (List.mem_append_left _ (List.mem_append_left _ (List.mem_append_left _ (List.mem_append_right _ h)))))) (by decide +kernel))) (goodIn_sub (fun _ h => List.mem_cons_of_mem _ (List.mem_append_left _ (List.mem_append_left _ (List.mem_append_left _ (List.mem_append_right _ h))))) (by decide +kernel))) (goodIn_sub (fun _ h => List.mem_cons_of_mem _ (List.mem_append_left _ (List.mem_append_left _ (List.mem_append_right _ h)))) (by decide +kernel))) (goodIn_sub (fun _ h => List.mem_cons_of_mem _ (List.mem_append_left _ (List.mem_append_right _ h))) (by decide +kernel))) (goodIn_sub (fun _ h => List.mem_cons_of_mem _ (List.mem_append_right _ h)) (by decide +kernel))
set_option maxRecDepth 20000 in
theorem gL_pour_X7_pour : GoodIn wsL_pour (wsV RL 41 RX7 yX7_pour wsX7_pour) := goodIn_app (goodIn_of _ (by decide +kernel)) ggL_pour_X7_pour
theorem dL_pour_0 : decode cL_pour 0 = .ok (.aload_n 3, 1) := by decide +kernel
theorem dL_pour_1 : decode cL_pour 1 = .ok (.iconst 0, 1) := by decide +kernel
theorem dL_pour_2 : decode cL_pour 2 = .ok (.aload_n 0, 1) := by decide +kernel
theorem dL_pour_3 : decode cL_pour 3 = .ok (.iload_n 1, 1) := by decide +kernel
theorem dL_pour_4 : decode cL_pour 4 = .ok (.iload_n 2, 1) := by decide +kernel
theorem dL_pour_5 : decode cL_pour 5 = .ok (.invokevirtual 41, 3) := by decide +kernel
theorem dL_pour_8 : decode cL_pour 8 = .ok (.i2l, 1) := by decide +kernel
theorem dL_pour_9 : decode cL_pour 9 = .ok (.lastore, 1) := by decide +kernel
theorem dL_pour_10 : decode cL_pour 10 = .ok (.goto 19, 3) := by decide +kernel
theorem dL_pour_13 : decode cL_pour 13 = .ok (.astore 4, 2) := by decide +kernel
theorem dL_pour_15 : decode cL_pour 15 = .ok (.iconst 1, 1) := by decide +kernel
theorem dL_pour_16 : decode cL_pour 16 = .ok (.ireturn, 1) := by decide +kernel
theorem dL_pour_17 : decode cL_pour 17 = .ok (.astore 4, 2) := by decide +kernel
theorem dL_pour_19 : decode cL_pour 19 = .ok (.iconst 2, 1) := by decide +kernel
theorem dL_pour_20 : decode cL_pour 20 = .ok (.ireturn, 1) := by decide +kernel
theorem dL_pour_21 : decode cL_pour 21 = .ok (.astore 4, 2) := by decide +kernel
theorem dL_pour_23 : decode cL_pour 23 = .ok (.iconst 3, 1) := by decide +kernel
theorem dL_pour_24 : decode cL_pour 24 = .ok (.ireturn, 1) := by decide +kernel
theorem dL_pour_25 : decode cL_pour 25 = .ok (.astore 4, 2) := by decide +kernel
theorem dL_pour_27 : decode cL_pour 27 = .ok (.iconst 4, 1) := by decide +kernel
theorem dL_pour_28 : decode cL_pour 28 = .ok (.ireturn, 1) := by decide +kernel
theorem dL_pour_29 : decode cL_pour 29 = .ok (.iconst 0, 1) := by decide +kernel
theorem dL_pour_30 : decode cL_pour 30 = .ok (.ireturn, 1) := by decide +kernel
set_option maxRecDepth 20000 in
theorem ggL_breakOut_X7_breakOut : GoodIn wsL_breakOut wsX7_breakOut := goodIn_ca (goodIn_ca (goodIn_ca (goodIn_ca (goodIn_ca (goodIn_ca (goodIn_ca (goodIn_r _ [8, 9, 10, 11, 12, 7, 13, 14, 15, 16, 17, 18, 19, 20, 21, 22, 23, 24, 25, 26, 27, 28, 29, 30, 31, 32, 33, 34, 35, 36, 37, 38, 39, 40, 41, 42, 43, 44, 45, 46, 47, 48, 49, 50, 51, 52, 53, 54, 55, 56, 57, 58, 59, 60, 61, 62, 63, 64, 65, 66, 67, 68, 69, 70, 71, 72, 73, 74, 75, 76, 77, 78, 79, 80, 81, 82, 83, 84, 85, 86, 87, 88, 89, 90, 91, 92, 93, 94, 95, 96, 97, 98, 99, 100, 101, 102, 103, 104, 105, 106, 107, 108, 109, 110, 111, 112, 113, 114, 115, 116, 117, 118, 119, 120, 121, 122, 123, 124, 125, 126, 127, 128, 129, 130, 131, 132, 133, 134, 135, 136, 137, 138, 139, 140, 141, 142, 143, 144, 145, 146, 147, 148, 149, 150, 151, 152, 153, 154, 155, 156, 157, 158, 159, 160, 161, 162, 163, 164, 165, 166, 167, 168, 169, 170, 171, 172, 173, 174, 175, 176, 177, 178, 179, 180, 181, 182, 183, 184, 185, 186, 187, 188, 189, 190, 191, 192, 193, 194, 195, 196, 197, 198, 199, 200, 201, 202, 203, 204, 205, 206, 207, 208, 209, 210, 211, 212, 213, 214, 215, 216, 217, 218, 219, 220] (by decide +kernel) (by decide +kernel)) (goodIn_sub (fun _ h => List.mem_cons_of_mem _ (List.mem_append_left _ (List.mem_append_left _ (List.mem_append_left _ (List.mem_append_left _ (List.mem_append_left _ (List.mem_append_left _ (List.mem_append_right _ h)))))))) (by decide +kernel))) (goodIn_sub (fun _ h => List.mem_cons_of_mem _ (List.mem_append_left _ (List.mem_append_left _ (List.mem_append_left _ (List.mem_append_left _ (List.mem_append_left _ (List.mem_append_right _ h))))))) (by decide +kernel))) (goodIn_sub (fun _ h => List.mem_cons_of_mem _ (List.mem_append_left _ (List.mem_append_left _ (List.mem_append_left _ (List.mem_append_left _ (List.mem_append_right _ h)))))) (by decide +kernel))) (goodIn_sub (fun _ h => List.mem_cons_of_mem _ (List.mem_append_left _ (List.mem_append_left _ (List.mem_append_left _ (List.mem_append_right _ h))))) (by decide +kernel))) (goodIn_sub (fun _ h => List.mem_cons_of_mem _ (List.mem_append_left _ (List.mem_append_left _ (List.mem_append_right _ h)))) (by decide +kernel))) (goodIn_sub (fun _ h => List.mem_cons_of_mem _ (List.mem_append_left _ (List.mem_append_right _ h))) (by decide +kernel))) (goodIn_sub (fun _ h => List.mem_cons_of_mem _ (List.mem_append_right _ h)) (by decide +kernel))
set_option maxRecDepth 20000 in
theorem gL_breakOut_X7_breakOut : GoodIn wsL_breakOut (wsV RL 44 RX7 yX7_breakOut wsX7_breakOut) := goodIn_app (goodIn_of _ (by decide +kernel)) ggL_breakOut_X7_breakOut
theorem dL_breakOut_0 : decode cL_breakOut 0 = .ok (.aload_n 2, 1) := by decide +kernel
theorem dL_breakOut_1 : decode cL_breakOut 1 = .ok (.iconst 0, 1) := by decide +kernel
theorem dL_breakOut_2 : decode cL_breakOut 2 = .ok (.aload_n 0, 1) := by decide +kernel
theorem dL_breakOut_3 : decode cL_breakOut 3 = .ok (.iload_n 1, 1) := by decide +kernel
theorem dL_breakOut_4 : decode cL_breakOut 4 = .ok (.invokevirtual 44, 3) := by decide +kernel
theorem dL_breakOut_7 : decode cL_breakOut 7 = .ok (.i2l, 1) := by decide +kernel
theorem dL_breakOut_8 : decode cL_breakOut 8 = .ok (.lastore, 1) := by decide +kernel
theorem dL_breakOut_9 : decode cL_breakOut 9 = .ok (.goto 12, 3) := by decide +kernel
theorem dL_breakOut_12 : decode cL_breakOut 12 = .ok (.astore_n 3, 1) := by decide +kernel
theorem dL_breakOut_13 : decode cL_breakOut 13 = .ok (.iconst 1, 1) := by decide +kernel
theorem dL_breakOut_14 : decode cL_breakOut 14 = .ok (.ireturn, 1) := by decide +kernel
theorem dL_breakOut_15 : decode cL_breakOut 15 = .ok (.astore_n 3, 1) := by decide +kernel
theorem dL_breakOut_16 : decode cL_breakOut 16 = .ok (.iconst 2, 1) := by decide +kernel
theorem dL_breakOut_17 : decode cL_breakOut 17 = .ok (.ireturn, 1) := by decide +kernel
theorem dL_breakOut_18 : decode cL_breakOut 18 = .ok (.astore_n 3, 1) := by decide +kernel
theorem dL_breakOut_19 : decode cL_breakOut 19 = .ok (.iconst 3, 1) := by decide +kernel
theorem dL_breakOut_20 : decode cL_breakOut 20 = .ok (.ireturn, 1) := by decide +kernel
theorem dL_breakOut_21 : decode cL_breakOut 21 = .ok (.iconst 0, 1) := by decide +kernel
theorem dL_breakOut_22 : decode cL_breakOut 22 = .ok (.ireturn, 1) := by decide +kernel
set_option maxRecDepth 20000 in
theorem ggL_meltDown_X7_meltDown : GoodIn wsL_meltDown wsX7_meltDown := goodIn_ca (goodIn_ca (goodIn_ca (goodIn_ca (goodIn_ca (goodIn_ca (goodIn_ca (goodIn_r _ [7, 8, 9, 10, 11, 6, 12, 13, 14, 15, 16, 17, 18, 19, 20, 21, 22, 23, 24, 25, 26, 27, 28, 29, 30, 31, 32, 33, 34, 35, 36, 37, 38, 39, 40, 41, 42, 43, 44, 45, 46, 47, 48, 49, 50, 51, 52, 53, 54, 55, 56, 57, 58, 59, 60, 61, 62, 63, 64, 65, 66, 67, 68, 69, 70, 71, 72, 73, 74, 75, 76, 77, 78, 79, 80, 81, 82, 83, 84, 85, 86, 87, 88, 89, 90, 91, 92, 93, 94, 95, 96, 97, 98, 99, 100, 101, 102, 103, 104, 105, 106, 107, 108, 109, 110, 111, 112, 113, 114, 115, 116, 117, 118, 119, 120, 121, 122, 123, 124, 125, 126, 127, 128, 129, 130, 131, 132, 133, 134, 135, 136, 137, 138, 139, 140, 141, 142, 143, 144, 145, 146, 147, 148, 149, 150, 151, 152, 153, 154, 155, 156, 157, 158, 159, 160, 161, 162, 163, 164, 165, 166, 167, 168, 169, 170, 171, 172, 173, 174, 175, 176, 177, 178, 179, 180, 181, 182, 183, 184, 185, 186, 187, 188, 189, 190, 191, 192, 193, 194, 195, 196, 197, 198, 199, 200, 201, 202, 203, 204, 205, 206, 207, 208, 209, 210, 211, 212, 213, 214, 215, 216, 217, 218, 219] (by decide +kernel) (by decide +kernel)) (goodIn_sub (fun _ h => List.mem_cons_of_mem _ (List.mem_append_left _ (List.mem_append_left _ (List.mem_append_left _ (List.mem_append_left _ (List.mem_append_left _ (List.mem_append_left _ (List.mem_append_right _ h)))))))) (by decide +kernel))) (goodIn_sub (fun _ h => List.mem_cons_of_mem _ (List.mem_append_left _ (List.mem_append_left _ (List.mem_append_left _ (List.mem_append_left _ (List.mem_append_left _ (List.mem_append_right _ h))))))) (by decide +kernel))) (goodIn_sub (fun _ h => List.mem_cons_of_mem _ (List.mem_append_left _ (List.mem_append_left _ (List.mem_append_left _ (List.mem_append_left _ (List.mem_append_right _ h)))))) (by decide +kernel))) (goodIn_sub (fun _ h => List.mem_cons_of_mem _ (List.mem_append_left _ (List.mem_append_left _ (List.mem_append_left _ (List.mem_append_right _ h))))) (by decide +kernel))) (goodIn_sub (fun _ h => List.mem_cons_of_mem _ (List.mem_append_left _ (List.mem_append_left _ (List.mem_append_right _ h)))) (by decide +kernel))) (goodIn_sub (fun _ h => List.mem_cons_of_mem _ (List.mem_append_left _ (List.mem_append_right _ h))) (by decide +kernel))) (goodIn_sub (fun _ h => List.mem_cons_of_mem _ (List.mem_append_right _ h)) (by decide +kernel))
set_option maxRecDepth 20000 in
theorem gL_meltDown_X7_meltDown : GoodIn wsL_meltDown (wsV RL 47 RX7 yX7_meltDown wsX7_meltDown) := goodIn_app (goodIn_of _ (by decide +kernel)) ggL_meltDown_X7_meltDown
theorem dL_meltDown_0 : decode cL_meltDown 0 = .ok (.aload_n 3, 1) := by decide +kernel
theorem dL_meltDown_1 : decode cL_meltDown 1 = .ok (.iconst 0, 1) := by decide +kernel
theorem dL_meltDown_2 : decode cL_meltDown 2 = .ok (.aload_n 0, 1) := by decide +kernel
theorem dL_meltDown_3 : decode cL_meltDown 3 = .ok (.iload_n 1, 1) := by decide +kernel
theorem dL_meltDown_4 : decode cL_meltDown 4 = .ok (.iload_n 2, 1) := by decide +kernel
theorem dL_meltDown_5 : decode cL_meltDown 5 = .ok (.invokevirtual 47, 3) := by decide +kernel
theorem dL_meltDown_8 : decode cL_meltDown 8 = .ok (.i2l, 1) := by decide +kernel
theorem dL_meltDown_9 : decode cL_meltDown 9 = .ok (.lastore, 1) := by decide +kernel
theorem dL_meltDown_10 : decode cL_meltDown 10 = .ok (.goto 11, 3) := by decide +kernel
theorem dL_meltDown_13 : decode cL_meltDown 13 = .ok (.astore 4, 2) := by decide +kernel
theorem dL_meltDown_15 : decode cL_meltDown 15 = .ok (.iconst 1, 1) := by decide +kernel
theorem dL_meltDown_16 : decode cL_meltDown 16 = .ok (.ireturn, 1) := by decide +kernel
theorem dL_meltDown_17 : decode cL_meltDown 17 = .ok (.astore 4, 2) := by decide +kernel
theorem dL_meltDown_19 : decode cL_meltDown 19 = .ok (.iconst 2, 1) := by decide +kernel
theorem dL_meltDown_20 : decode cL_meltDown 20 = .ok (.ireturn, 1) := by decide +kernel
theorem dL_meltDown_21 : decode cL_meltDown 21 = .ok (.iconst 0, 1) := by decide +kernel
theorem dL_meltDown_22 : decode cL_meltDown 22 = .ok (.ireturn, 1) := by decide +kernel
set_option maxRecDepth 20000 in
theorem ggL_advance_X7_advance : GoodIn wsL_advance wsX7_advance := goodIn_ca (goodIn_ca (goodIn_ca (goodIn_ca (goodIn_ca (goodIn_ca (goodIn_ca (goodIn_r _ [6, 7, 8, 9, 10, 5, 11, 12, 13, 14, 15, 16, 17, 18, 19, 20, 21, 22, 23, 24, 25, 26, 27, 28, 29, 30, 31, 32, 33, 34, 35, 36, 37, 38, 39, 40, 41, 42, 43, 44, 45, 46, 47, 48, 49, 50, 51, 52, 53, 54, 55, 56, 57, 58, 59, 60, 61, 62, 63, 64, 65, 66, 67, 68, 69, 70, 71, 72, 73, 74, 75, 76, 77, 78, 79, 80, 81, 82, 83, 84, 85, 86, 87, 88, 89, 90, 91, 92, 93, 94, 95, 96, 97, 98, 99, 100, 101, 102, 103, 104, 105, 106, 107, 108, 109, 110, 111, 112, 113, 114, 115, 116, 117, 118, 119, 120, 121, 122, 123, 124, 125, 126, 127, 128, 129, 130, 131, 132, 133, 134, 135, 136, 137, 138, 139, 140, 141, 142, 143, 144, 145, 146, 147, 148, 149, 150, 151, 152, 153, 154, 155, 156, 157, 158, 159, 160, 161, 162, 163, 164, 165, 166, 167, 168, 169, 170, 171, 172, 173, 174, 175, 176, 177, 178, 179, 180, 181, 182, 183, 184, 185, 186, 187, 188, 189, 190, 191, 192, 193, 194, 195, 196, 197, 198, 199, 200, 201, 202, 203, 204, 205, 206, 207, 208, 209, 210, 211, 212, 213, 214, 215, 216, 217, 218] (by decide +kernel) (by decide +kernel)) (goodIn_sub (fun _ h => List.mem_cons_of_mem _ (List.mem_append_left _ (List.mem_append_left _ (List.mem_append_left _ (List.mem_append_left _ (List.mem_append_left _ (List.mem_append_left _ (List.mem_append_right _ h)))))))) (by decide +kernel))) (goodIn_sub (fun _ h => List.mem_cons_of_mem _ (List.mem_append_left _ (List.mem_append_left _ (List.mem_append_left _ (List.mem_append_left _ (List.mem_append_left _ (List.mem_append_right _ h))))))) (by decide +kernel))) (goodIn_sub (fun _ h => List.mem_cons_of_mem _ (List.mem_append_left _ (List.mem_append_left _ (List.mem_append_left _ (List.mem_append_left _ (List.mem_append_right _ h)))))) (by decide +kernel))) (goodIn_sub (fun _ h => List.mem_cons_of_mem _ (List.mem_append_left _ (List.mem_append_left _ (List.mem_append_left _ (List.mem_append_right _ h))))) (by decide +kernel))) (goodIn_sub (fun _ h => List.mem_cons_of_mem _ (List.mem_append_left _ (List.mem_append_left _ (List.mem_append_right _ h)))) (by decide +kernel))) (goodIn_sub (fun _ h => List.mem_cons_of_mem _ (List.mem_append_left _ (List.mem_append_right _ h))) (by decide +kernel))) (goodIn_sub (fun _ h => List.mem_cons_of_mem _ (List.mem_append_right _ h)) (by decide +kernel))
set_option maxRecDepth 20000 in
theorem gL_advance_X7_advance : GoodIn wsL_advance (wsV RL 50 RX7 yX7_advance wsX7_advance) := goodIn_app (goodIn_of _ (by decide +kernel)) ggL_advance_X7_advance
theorem dL_advance_0 : decode cL_advance 0 = .ok (.aload_n 2, 1) := by decide +kernel
theorem dL_advance_1 : decode cL_advance 1 = .ok (.iconst 0, 1) := by decide +kernel
theorem dL_advance_2 : decode cL_advance 2 = .ok (.aload_n 0, 1) := by decide +kernel
theorem dL_advance_3 : decode cL_advance 3 = .ok (.iload_n 1, 1) := by decide +kernel
theorem dL_advance_4 : decode cL_advance 4 = .ok (.invokevirtual 50, 3) := by decide +kernel
theorem dL_advance_7 : decode cL_advance 7 = .ok (.i2l, 1) := by decide +kernel
theorem dL_advance_8 : decode cL_advance 8 = .ok (.lastore, 1) := by decide +kernel
theorem dL_advance_9 : decode cL_advance 9 = .ok (.goto 6, 3) := by decide +kernel
theorem dL_advance_12 : decode cL_advance 12 = .ok (.astore_n 3, 1) := by decide +kernel
theorem dL_advance_13 : decode cL_advance 13 = .ok (.iconst 1, 1) := by decide +kernel
theorem dL_advance_14 : decode cL_advance 14 = .ok (.ireturn, 1) := by decide +kernel
theorem dL_advance_15 : decode cL_advance 15 = .ok (.iconst 0, 1) := by decide +kernel
theorem dL_advance_16 : decode cL_advance 16 = .ok (.ireturn, 1) := by decide +kernel
set_option maxRecDepth 20000 in
theorem ggL_furnaceMass_X7_furnaceMass : GoodIn wsL_furnaceMass wsX7_furnaceMass := goodIn_ca (goodIn_ca (goodIn_ca (goodIn_r _ [7, 8, 9, 10, 6, 11, 12, 13, 14, 15, 16, 17, 18, 19, 20, 21, 22, 23, 24, 25, 26, 27, 28, 29, 30, 31, 32, 33, 34, 35, 36, 37, 38, 39, 40, 41, 42, 43, 44, 45, 46, 47, 48] (by decide +kernel) (by decide +kernel)) (goodIn_sub (fun _ h => List.mem_cons_of_mem _ (List.mem_append_left _ (List.mem_append_left _ (List.mem_append_right _ h)))) (by decide +kernel))) (goodIn_sub (fun _ h => List.mem_cons_of_mem _ (List.mem_append_left _ (List.mem_append_right _ h))) (by decide +kernel))) (goodIn_sub (fun _ h => List.mem_cons_of_mem _ (List.mem_append_right _ h)) (by decide +kernel))
set_option maxRecDepth 20000 in
theorem gL_furnaceMass_X7_furnaceMass : GoodIn wsL_furnaceMass (wsV RL 53 RX7 yX7_furnaceMass wsX7_furnaceMass) := goodIn_app (goodIn_of _ (by decide +kernel)) ggL_furnaceMass_X7_furnaceMass
theorem dL_furnaceMass_0 : decode cL_furnaceMass 0 = .ok (.aload_n 3, 1) := by decide +kernel
theorem dL_furnaceMass_1 : decode cL_furnaceMass 1 = .ok (.iconst 0, 1) := by decide +kernel
theorem dL_furnaceMass_2 : decode cL_furnaceMass 2 = .ok (.aload_n 0, 1) := by decide +kernel
theorem dL_furnaceMass_3 : decode cL_furnaceMass 3 = .ok (.iload_n 1, 1) := by decide +kernel
theorem dL_furnaceMass_4 : decode cL_furnaceMass 4 = .ok (.iload_n 2, 1) := by decide +kernel
theorem dL_furnaceMass_5 : decode cL_furnaceMass 5 = .ok (.invokevirtual 53, 3) := by decide +kernel
theorem dL_furnaceMass_8 : decode cL_furnaceMass 8 = .ok (.i2l, 1) := by decide +kernel
theorem dL_furnaceMass_9 : decode cL_furnaceMass 9 = .ok (.lastore, 1) := by decide +kernel
theorem dL_furnaceMass_10 : decode cL_furnaceMass 10 = .ok (.goto 11, 3) := by decide +kernel
theorem dL_furnaceMass_13 : decode cL_furnaceMass 13 = .ok (.astore 4, 2) := by decide +kernel
theorem dL_furnaceMass_15 : decode cL_furnaceMass 15 = .ok (.iconst 1, 1) := by decide +kernel
theorem dL_furnaceMass_16 : decode cL_furnaceMass 16 = .ok (.ireturn, 1) := by decide +kernel
theorem dL_furnaceMass_17 : decode cL_furnaceMass 17 = .ok (.astore 4, 2) := by decide +kernel
theorem dL_furnaceMass_19 : decode cL_furnaceMass 19 = .ok (.iconst 2, 1) := by decide +kernel
theorem dL_furnaceMass_20 : decode cL_furnaceMass 20 = .ok (.ireturn, 1) := by decide +kernel
theorem dL_furnaceMass_21 : decode cL_furnaceMass 21 = .ok (.iconst 0, 1) := by decide +kernel
theorem dL_furnaceMass_22 : decode cL_furnaceMass 22 = .ok (.ireturn, 1) := by decide +kernel
set_option maxRecDepth 20000 in
theorem ggL_furnaceTotal_X7_furnaceTotal : GoodIn wsL_furnaceTotal wsX7_furnaceTotal := goodIn_ca (goodIn_ca (goodIn_r _ [6, 7, 8, 9, 5, 10, 11, 12, 13, 14, 15, 16, 17, 18, 19, 20, 21, 22, 23, 24, 25, 26, 27, 28, 29, 30, 31, 32, 33, 34, 35, 36, 37, 38, 39, 40, 41, 42, 43, 44] (by decide +kernel) (by decide +kernel)) (goodIn_sub (fun _ h => List.mem_cons_of_mem _ (List.mem_append_right _ h)) (by decide +kernel))) (goodIn_sub (fun _ h => List.mem_cons_of_mem _ (List.mem_append_left _ (List.mem_append_right _ h))) (by decide +kernel))
set_option maxRecDepth 20000 in
theorem gL_furnaceTotal_X7_furnaceTotal : GoodIn wsL_furnaceTotal (wsV RL 57 RX7 yX7_furnaceTotal wsX7_furnaceTotal) := goodIn_app (goodIn_of _ (by decide +kernel)) ggL_furnaceTotal_X7_furnaceTotal
theorem dL_furnaceTotal_0 : decode cL_furnaceTotal 0 = .ok (.aload_n 2, 1) := by decide +kernel
theorem dL_furnaceTotal_1 : decode cL_furnaceTotal 1 = .ok (.iconst 0, 1) := by decide +kernel
theorem dL_furnaceTotal_2 : decode cL_furnaceTotal 2 = .ok (.aload_n 0, 1) := by decide +kernel
theorem dL_furnaceTotal_3 : decode cL_furnaceTotal 3 = .ok (.iload_n 1, 1) := by decide +kernel
theorem dL_furnaceTotal_4 : decode cL_furnaceTotal 4 = .ok (.invokevirtual 57, 3) := by decide +kernel
theorem dL_furnaceTotal_7 : decode cL_furnaceTotal 7 = .ok (.i2l, 1) := by decide +kernel
theorem dL_furnaceTotal_8 : decode cL_furnaceTotal 8 = .ok (.lastore, 1) := by decide +kernel
theorem dL_furnaceTotal_9 : decode cL_furnaceTotal 9 = .ok (.goto 6, 3) := by decide +kernel
theorem dL_furnaceTotal_12 : decode cL_furnaceTotal 12 = .ok (.astore_n 3, 1) := by decide +kernel
theorem dL_furnaceTotal_13 : decode cL_furnaceTotal 13 = .ok (.iconst 1, 1) := by decide +kernel
theorem dL_furnaceTotal_14 : decode cL_furnaceTotal 14 = .ok (.ireturn, 1) := by decide +kernel
theorem dL_furnaceTotal_15 : decode cL_furnaceTotal 15 = .ok (.iconst 0, 1) := by decide +kernel
theorem dL_furnaceTotal_16 : decode cL_furnaceTotal 16 = .ok (.ireturn, 1) := by decide +kernel
set_option maxRecDepth 20000 in
theorem ggL_furnaceTemperature_X7_furnaceTemperature : GoodIn wsL_furnaceTemperature wsX7_furnaceTemperature := goodIn_ca (goodIn_r _ [6, 7, 8, 9, 5, 10, 11, 12, 13, 14, 15, 16, 17, 18, 19, 20, 21, 22, 23, 24, 25, 26, 27, 28, 29, 30, 31, 32, 33, 34, 35, 36, 37] (by decide +kernel) (by decide +kernel)) (goodIn_sub (fun _ h => List.mem_cons_of_mem _ (List.mem_append_right _ h)) (by decide +kernel))
set_option maxRecDepth 20000 in
theorem gL_furnaceTemperature_X7_furnaceTemperature : GoodIn wsL_furnaceTemperature (wsV RL 60 RX7 yX7_furnaceTemperature wsX7_furnaceTemperature) := goodIn_app (goodIn_of _ (by decide +kernel)) ggL_furnaceTemperature_X7_furnaceTemperature
theorem dL_furnaceTemperature_0 : decode cL_furnaceTemperature 0 = .ok (.aload_n 2, 1) := by decide +kernel
theorem dL_furnaceTemperature_1 : decode cL_furnaceTemperature 1 = .ok (.iconst 0, 1) := by decide +kernel
theorem dL_furnaceTemperature_2 : decode cL_furnaceTemperature 2 = .ok (.aload_n 0, 1) := by decide +kernel
theorem dL_furnaceTemperature_3 : decode cL_furnaceTemperature 3 = .ok (.iload_n 1, 1) := by decide +kernel
theorem dL_furnaceTemperature_4 : decode cL_furnaceTemperature 4 = .ok (.invokevirtual 60, 3) := by decide +kernel
theorem dL_furnaceTemperature_7 : decode cL_furnaceTemperature 7 = .ok (.i2l, 1) := by decide +kernel
theorem dL_furnaceTemperature_8 : decode cL_furnaceTemperature 8 = .ok (.lastore, 1) := by decide +kernel
theorem dL_furnaceTemperature_9 : decode cL_furnaceTemperature 9 = .ok (.goto 6, 3) := by decide +kernel
theorem dL_furnaceTemperature_12 : decode cL_furnaceTemperature 12 = .ok (.astore_n 3, 1) := by decide +kernel
theorem dL_furnaceTemperature_13 : decode cL_furnaceTemperature 13 = .ok (.iconst 1, 1) := by decide +kernel
theorem dL_furnaceTemperature_14 : decode cL_furnaceTemperature 14 = .ok (.ireturn, 1) := by decide +kernel
theorem dL_furnaceTemperature_15 : decode cL_furnaceTemperature 15 = .ok (.iconst 0, 1) := by decide +kernel
theorem dL_furnaceTemperature_16 : decode cL_furnaceTemperature 16 = .ok (.ireturn, 1) := by decide +kernel
set_option maxRecDepth 20000 in
theorem ggL_fire_X7_fire : GoodIn wsL_fire wsX7_fire := goodIn_ca (goodIn_ca (goodIn_r _ [6, 7, 8, 9, 5, 10, 11, 12, 13, 14, 15, 16, 17, 18, 19, 20, 21, 22, 23, 24, 25, 26, 27, 28, 29, 30, 31, 32, 33, 34] (by decide +kernel) (by decide +kernel)) (goodIn_sub (fun _ h => List.mem_cons_of_mem _ (List.mem_append_left _ (List.mem_append_right _ h))) (by decide +kernel))) (goodIn_sub (fun _ h => List.mem_cons_of_mem _ (List.mem_append_right _ h)) (by decide +kernel))
set_option maxRecDepth 20000 in
theorem gL_fire_X7_fire : GoodIn wsL_fire (wsV RL 63 RX7 yX7_fire wsX7_fire) := goodIn_app (goodIn_of _ (by decide +kernel)) ggL_fire_X7_fire
theorem dL_fire_0 : decode cL_fire 0 = .ok (.aload_n 2, 1) := by decide +kernel
theorem dL_fire_1 : decode cL_fire 1 = .ok (.iconst 0, 1) := by decide +kernel
theorem dL_fire_2 : decode cL_fire 2 = .ok (.aload_n 0, 1) := by decide +kernel
theorem dL_fire_3 : decode cL_fire 3 = .ok (.iload_n 1, 1) := by decide +kernel
theorem dL_fire_4 : decode cL_fire 4 = .ok (.invokevirtual 63, 3) := by decide +kernel
theorem dL_fire_7 : decode cL_fire 7 = .ok (.i2l, 1) := by decide +kernel
theorem dL_fire_8 : decode cL_fire 8 = .ok (.lastore, 1) := by decide +kernel
theorem dL_fire_9 : decode cL_fire 9 = .ok (.goto 6, 3) := by decide +kernel
theorem dL_fire_12 : decode cL_fire 12 = .ok (.astore_n 3, 1) := by decide +kernel
theorem dL_fire_13 : decode cL_fire 13 = .ok (.iconst 1, 1) := by decide +kernel
theorem dL_fire_14 : decode cL_fire 14 = .ok (.ireturn, 1) := by decide +kernel
theorem dL_fire_15 : decode cL_fire 15 = .ok (.iconst 0, 1) := by decide +kernel
theorem dL_fire_16 : decode cL_fire 16 = .ok (.ireturn, 1) := by decide +kernel
set_option maxRecDepth 20000 in
theorem ggL_meltingPoint_X7_meltingPoint : GoodIn wsL_meltingPoint wsX7_meltingPoint := goodIn_ca (goodIn_ca (goodIn_ca (goodIn_ca (goodIn_r _ [7, 8, 9, 10, 6, 11, 12, 13, 14, 15, 16, 17, 18, 19, 20, 21, 22, 23, 24, 25, 26, 27, 28, 29, 30, 31, 32, 33, 34, 35, 36, 37, 38, 39, 40, 41, 42, 43, 44, 45, 46, 47, 48, 49, 50, 51, 52, 53, 54, 55] (by decide +kernel) (by decide +kernel)) (goodIn_sub (fun _ h => List.mem_cons_of_mem _ (List.mem_append_left _ (List.mem_append_left _ (List.mem_append_right _ h)))) (by decide +kernel))) (goodIn_sub (fun _ h => List.mem_cons_of_mem _ (List.mem_append_left _ (List.mem_append_right _ h))) (by decide +kernel))) (goodIn_sub (fun _ h => List.mem_cons_of_mem _ (List.mem_append_left _ (List.mem_append_left _ (List.mem_append_left _ (List.mem_append_right _ h))))) (by decide +kernel))) (goodIn_sub (fun _ h => List.mem_cons_of_mem _ (List.mem_append_right _ h)) (by decide +kernel))
set_option maxRecDepth 20000 in
theorem gL_meltingPoint_X7_meltingPoint : GoodIn wsL_meltingPoint (wsV RL 66 RX7 yX7_meltingPoint wsX7_meltingPoint) := goodIn_app (goodIn_of _ (by decide +kernel)) ggL_meltingPoint_X7_meltingPoint
theorem dL_meltingPoint_0 : decode cL_meltingPoint 0 = .ok (.aload_n 2, 1) := by decide +kernel
theorem dL_meltingPoint_1 : decode cL_meltingPoint 1 = .ok (.iconst 0, 1) := by decide +kernel
theorem dL_meltingPoint_2 : decode cL_meltingPoint 2 = .ok (.aload_n 0, 1) := by decide +kernel
theorem dL_meltingPoint_3 : decode cL_meltingPoint 3 = .ok (.iload_n 1, 1) := by decide +kernel
theorem dL_meltingPoint_4 : decode cL_meltingPoint 4 = .ok (.invokevirtual 66, 3) := by decide +kernel
theorem dL_meltingPoint_7 : decode cL_meltingPoint 7 = .ok (.i2l, 1) := by decide +kernel
theorem dL_meltingPoint_8 : decode cL_meltingPoint 8 = .ok (.lastore, 1) := by decide +kernel
theorem dL_meltingPoint_9 : decode cL_meltingPoint 9 = .ok (.goto 9, 3) := by decide +kernel
theorem dL_meltingPoint_12 : decode cL_meltingPoint 12 = .ok (.astore_n 3, 1) := by decide +kernel
theorem dL_meltingPoint_13 : decode cL_meltingPoint 13 = .ok (.iconst 1, 1) := by decide +kernel
theorem dL_meltingPoint_14 : decode cL_meltingPoint 14 = .ok (.ireturn, 1) := by decide +kernel
theorem dL_meltingPoint_15 : decode cL_meltingPoint 15 = .ok (.astore_n 3, 1) := by decide +kernel
theorem dL_meltingPoint_16 : decode cL_meltingPoint 16 = .ok (.iconst 2, 1) := by decide +kernel
theorem dL_meltingPoint_17 : decode cL_meltingPoint 17 = .ok (.ireturn, 1) := by decide +kernel
theorem dL_meltingPoint_18 : decode cL_meltingPoint 18 = .ok (.iconst 0, 1) := by decide +kernel
theorem dL_meltingPoint_19 : decode cL_meltingPoint 19 = .ok (.ireturn, 1) := by decide +kernel
set_option maxRecDepth 20000 in
theorem ggL_meltingPointByDifferences_X7_meltingPointByDifferences : GoodIn wsL_meltingPointByDifferences wsX7_meltingPointByDifferences := goodIn_ca (goodIn_ca (goodIn_ca (goodIn_ca (goodIn_r _ [7, 8, 9, 10, 6, 11, 12, 13, 14, 15, 16, 17, 18, 19, 20, 21, 22, 23, 24, 25, 26, 27, 28, 29, 30, 31, 32, 33, 34, 35, 36, 37, 38, 39, 40, 41, 42, 43, 44, 45, 46, 47, 48, 49, 50, 51, 52, 53, 54, 55] (by decide +kernel) (by decide +kernel)) (goodIn_sub (fun _ h => List.mem_cons_of_mem _ (List.mem_append_left _ (List.mem_append_left _ (List.mem_append_right _ h)))) (by decide +kernel))) (goodIn_sub (fun _ h => List.mem_cons_of_mem _ (List.mem_append_left _ (List.mem_append_right _ h))) (by decide +kernel))) (goodIn_sub (fun _ h => List.mem_cons_of_mem _ (List.mem_append_left _ (List.mem_append_left _ (List.mem_append_left _ (List.mem_append_right _ h))))) (by decide +kernel))) (goodIn_sub (fun _ h => List.mem_cons_of_mem _ (List.mem_append_right _ h)) (by decide +kernel))
set_option maxRecDepth 20000 in
theorem gL_meltingPointByDifferences_X7_meltingPointByDifferences : GoodIn wsL_meltingPointByDifferences (wsV RL 69 RX7 yX7_meltingPointByDifferences wsX7_meltingPointByDifferences) := goodIn_app (goodIn_of _ (by decide +kernel)) ggL_meltingPointByDifferences_X7_meltingPointByDifferences
theorem dL_meltingPointByDifferences_0 : decode cL_meltingPointByDifferences 0 = .ok (.aload_n 2, 1) := by decide +kernel
theorem dL_meltingPointByDifferences_1 : decode cL_meltingPointByDifferences 1 = .ok (.iconst 0, 1) := by decide +kernel
theorem dL_meltingPointByDifferences_2 : decode cL_meltingPointByDifferences 2 = .ok (.aload_n 0, 1) := by decide +kernel
theorem dL_meltingPointByDifferences_3 : decode cL_meltingPointByDifferences 3 = .ok (.iload_n 1, 1) := by decide +kernel
theorem dL_meltingPointByDifferences_4 : decode cL_meltingPointByDifferences 4 = .ok (.invokevirtual 69, 3) := by decide +kernel
theorem dL_meltingPointByDifferences_7 : decode cL_meltingPointByDifferences 7 = .ok (.i2l, 1) := by decide +kernel
theorem dL_meltingPointByDifferences_8 : decode cL_meltingPointByDifferences 8 = .ok (.lastore, 1) := by decide +kernel
theorem dL_meltingPointByDifferences_9 : decode cL_meltingPointByDifferences 9 = .ok (.goto 9, 3) := by decide +kernel
theorem dL_meltingPointByDifferences_12 : decode cL_meltingPointByDifferences 12 = .ok (.astore_n 3, 1) := by decide +kernel
theorem dL_meltingPointByDifferences_13 : decode cL_meltingPointByDifferences 13 = .ok (.iconst 1, 1) := by decide +kernel
theorem dL_meltingPointByDifferences_14 : decode cL_meltingPointByDifferences 14 = .ok (.ireturn, 1) := by decide +kernel
theorem dL_meltingPointByDifferences_15 : decode cL_meltingPointByDifferences 15 = .ok (.astore_n 3, 1) := by decide +kernel
theorem dL_meltingPointByDifferences_16 : decode cL_meltingPointByDifferences 16 = .ok (.iconst 2, 1) := by decide +kernel
theorem dL_meltingPointByDifferences_17 : decode cL_meltingPointByDifferences 17 = .ok (.ireturn, 1) := by decide +kernel
theorem dL_meltingPointByDifferences_18 : decode cL_meltingPointByDifferences 18 = .ok (.iconst 0, 1) := by decide +kernel
theorem dL_meltingPointByDifferences_19 : decode cL_meltingPointByDifferences 19 = .ok (.ireturn, 1) := by decide +kernel
set_option maxRecDepth 20000 in
theorem ggL_isMolten_X7_isMolten : GoodIn wsL_isMolten wsX7_isMolten := goodIn_ca (goodIn_ca (goodIn_ca (goodIn_r _ [6, 7, 8, 9, 5, 10, 11, 12, 13, 14, 15, 16, 17, 18, 19, 20, 21, 22, 23, 24, 25, 26, 27, 28, 29, 30, 31, 32, 33, 34, 35, 36, 37, 38, 39, 40, 41, 42, 43, 44, 45, 46, 47, 48, 49, 50, 51, 52, 53, 54, 55] (by decide +kernel) (by decide +kernel)) (goodIn_sub (fun _ h => List.mem_cons_of_mem _ (List.mem_append_left _ (List.mem_append_right _ h))) (by decide +kernel))) (goodIn_sub (fun _ h => List.mem_cons_of_mem _ (List.mem_append_left _ (List.mem_append_left _ (List.mem_append_right _ h)))) (by decide +kernel))) (goodIn_sub (fun _ h => List.mem_cons_of_mem _ (List.mem_append_right _ h)) (by decide +kernel))
set_option maxRecDepth 20000 in
theorem gL_isMolten_X7_isMolten : GoodIn wsL_isMolten (wsV RL 72 RX7 yX7_isMolten wsX7_isMolten) := goodIn_app (goodIn_of _ (by decide +kernel)) ggL_isMolten_X7_isMolten
theorem dL_isMolten_0 : decode cL_isMolten 0 = .ok (.aload_n 2, 1) := by decide +kernel
theorem dL_isMolten_1 : decode cL_isMolten 1 = .ok (.iconst 0, 1) := by decide +kernel
theorem dL_isMolten_2 : decode cL_isMolten 2 = .ok (.aload_n 0, 1) := by decide +kernel
theorem dL_isMolten_3 : decode cL_isMolten 3 = .ok (.iload_n 1, 1) := by decide +kernel
theorem dL_isMolten_4 : decode cL_isMolten 4 = .ok (.invokevirtual 72, 3) := by decide +kernel
theorem dL_isMolten_7 : decode cL_isMolten 7 = .ok (.ifCond .eq 7, 3) := by decide +kernel
theorem dL_isMolten_10 : decode cL_isMolten 10 = .ok (.lconst 1, 1) := by decide +kernel
theorem dL_isMolten_11 : decode cL_isMolten 11 = .ok (.goto 4, 3) := by decide +kernel
theorem dL_isMolten_14 : decode cL_isMolten 14 = .ok (.lconst 0, 1) := by decide +kernel
theorem dL_isMolten_15 : decode cL_isMolten 15 = .ok (.lastore, 1) := by decide +kernel
theorem dL_isMolten_16 : decode cL_isMolten 16 = .ok (.goto 6, 3) := by decide +kernel
theorem dL_isMolten_19 : decode cL_isMolten 19 = .ok (.astore_n 3, 1) := by decide +kernel
theorem dL_isMolten_20 : decode cL_isMolten 20 = .ok (.iconst 1, 1) := by decide +kernel
theorem dL_isMolten_21 : decode cL_isMolten 21 = .ok (.ireturn, 1) := by decide +kernel
theorem dL_isMolten_22 : decode cL_isMolten 22 = .ok (.iconst 0, 1) := by decide +kernel
theorem dL_isMolten_23 : decode cL_isMolten 23 = .ok (.ireturn, 1) := by decide +kernel
set_option maxRecDepth 20000 in
theorem ggL_minutesUntilMolten_X7_minutesUntilMolten : GoodIn wsL_minutesUntilMolten wsX7_minutesUntilMolten := goodIn_ca (goodIn_ca (goodIn_ca (goodIn_ca (goodIn_r _ [7, 8, 9, 10, 11, 6, 12, 13, 14, 15, 16, 17, 18, 19, 20, 21, 22, 23, 24, 25, 26, 27, 28, 29, 30, 31, 32, 33, 34, 35, 36, 37, 38, 39, 40, 41, 42, 43, 44, 45, 46, 47, 48, 49, 50, 51, 52, 53, 54, 55, 56, 57, 58, 59, 60, 61, 62, 63, 64, 65, 66, 67, 68, 69, 70, 71, 72, 73, 74, 75, 76, 77, 78, 79, 80, 81, 82] (by decide +kernel) (by decide +kernel)) (goodIn_sub (fun _ h => List.mem_cons_of_mem _ (List.mem_append_left _ (List.mem_append_left _ (List.mem_append_right _ h)))) (by decide +kernel))) (goodIn_sub (fun _ h => List.mem_cons_of_mem _ (List.mem_append_left _ (List.mem_append_right _ h))) (by decide +kernel))) (goodIn_sub (fun _ h => List.mem_cons_of_mem _ (List.mem_append_left _ (List.mem_append_left _ (List.mem_append_left _ (List.mem_append_right _ h))))) (by decide +kernel))) (goodIn_sub (fun _ h => List.mem_cons_of_mem _ (List.mem_append_right _ h)) (by decide +kernel))
set_option maxRecDepth 20000 in
theorem gL_minutesUntilMolten_X7_minutesUntilMolten : GoodIn wsL_minutesUntilMolten (wsV RL 76 RX7 yX7_minutesUntilMolten wsX7_minutesUntilMolten) := goodIn_app (goodIn_of _ (by decide +kernel)) ggL_minutesUntilMolten_X7_minutesUntilMolten
theorem dL_minutesUntilMolten_0 : decode cL_minutesUntilMolten 0 = .ok (.aload_n 2, 1) := by decide +kernel
theorem dL_minutesUntilMolten_1 : decode cL_minutesUntilMolten 1 = .ok (.iconst 0, 1) := by decide +kernel
theorem dL_minutesUntilMolten_2 : decode cL_minutesUntilMolten 2 = .ok (.aload_n 0, 1) := by decide +kernel
theorem dL_minutesUntilMolten_3 : decode cL_minutesUntilMolten 3 = .ok (.iload_n 1, 1) := by decide +kernel
theorem dL_minutesUntilMolten_4 : decode cL_minutesUntilMolten 4 = .ok (.invokevirtual 76, 3) := by decide +kernel
theorem dL_minutesUntilMolten_7 : decode cL_minutesUntilMolten 7 = .ok (.i2l, 1) := by decide +kernel
theorem dL_minutesUntilMolten_8 : decode cL_minutesUntilMolten 8 = .ok (.lastore, 1) := by decide +kernel
theorem dL_minutesUntilMolten_9 : decode cL_minutesUntilMolten 9 = .ok (.goto 9, 3) := by decide +kernel
theorem dL_minutesUntilMolten_12 : decode cL_minutesUntilMolten 12 = .ok (.astore_n 3, 1) := by decide +kernel
theorem dL_minutesUntilMolten_13 : decode cL_minutesUntilMolten 13 = .ok (.iconst 1, 1) := by decide +kernel
theorem dL_minutesUntilMolten_14 : decode cL_minutesUntilMolten 14 = .ok (.ireturn, 1) := by decide +kernel
theorem dL_minutesUntilMolten_15 : decode cL_minutesUntilMolten 15 = .ok (.astore_n 3, 1) := by decide +kernel
theorem dL_minutesUntilMolten_16 : decode cL_minutesUntilMolten 16 = .ok (.iconst 2, 1) := by decide +kernel
theorem dL_minutesUntilMolten_17 : decode cL_minutesUntilMolten 17 = .ok (.ireturn, 1) := by decide +kernel
theorem dL_minutesUntilMolten_18 : decode cL_minutesUntilMolten 18 = .ok (.iconst 0, 1) := by decide +kernel
theorem dL_minutesUntilMolten_19 : decode cL_minutesUntilMolten 19 = .ok (.ireturn, 1) := by decide +kernel
set_option maxRecDepth 20000 in
theorem ggL_minutesUntilMoltenByDivision_X7_minutesUntilMoltenByDivision : GoodIn wsL_minutesUntilMoltenByDivision wsX7_minutesUntilMoltenByDivision := goodIn_ca (goodIn_ca (goodIn_ca (goodIn_ca (goodIn_r _ [7, 8, 9, 10, 11, 6, 12, 13, 14, 15, 16, 17, 18, 19, 20, 21, 22, 23, 24, 25, 26, 27, 28, 29, 30, 31, 32, 33, 34, 35, 36, 37, 38, 39, 40, 41, 42, 43, 44, 45, 46, 47, 48, 49, 50, 51, 52, 53, 54, 55, 56, 57, 58, 59, 60, 61, 62, 63, 64, 65, 66, 67, 68, 69, 70, 71, 72, 73, 74, 75, 76, 77, 78, 79] (by decide +kernel) (by decide +kernel)) (goodIn_sub (fun _ h => List.mem_cons_of_mem _ (List.mem_append_left _ (List.mem_append_left _ (List.mem_append_right _ h)))) (by decide +kernel))) (goodIn_sub (fun _ h => List.mem_cons_of_mem _ (List.mem_append_left _ (List.mem_append_right _ h))) (by decide +kernel))) (goodIn_sub (fun _ h => List.mem_cons_of_mem _ (List.mem_append_left _ (List.mem_append_left _ (List.mem_append_left _ (List.mem_append_right _ h))))) (by decide +kernel))) (goodIn_sub (fun _ h => List.mem_cons_of_mem _ (List.mem_append_right _ h)) (by decide +kernel))
set_option maxRecDepth 20000 in
theorem gL_minutesUntilMoltenByDivision_X7_minutesUntilMoltenByDivision : GoodIn wsL_minutesUntilMoltenByDivision (wsV RL 79 RX7 yX7_minutesUntilMoltenByDivision wsX7_minutesUntilMoltenByDivision) := goodIn_app (goodIn_of _ (by decide +kernel)) ggL_minutesUntilMoltenByDivision_X7_minutesUntilMoltenByDivision
theorem dL_minutesUntilMoltenByDivision_0 : decode cL_minutesUntilMoltenByDivision 0 = .ok (.aload_n 2, 1) := by decide +kernel
theorem dL_minutesUntilMoltenByDivision_1 : decode cL_minutesUntilMoltenByDivision 1 = .ok (.iconst 0, 1) := by decide +kernel
theorem dL_minutesUntilMoltenByDivision_2 : decode cL_minutesUntilMoltenByDivision 2 = .ok (.aload_n 0, 1) := by decide +kernel
theorem dL_minutesUntilMoltenByDivision_3 : decode cL_minutesUntilMoltenByDivision 3 = .ok (.iload_n 1, 1) := by decide +kernel
theorem dL_minutesUntilMoltenByDivision_4 : decode cL_minutesUntilMoltenByDivision 4 = .ok (.invokevirtual 79, 3) := by decide +kernel
theorem dL_minutesUntilMoltenByDivision_7 : decode cL_minutesUntilMoltenByDivision 7 = .ok (.i2l, 1) := by decide +kernel
theorem dL_minutesUntilMoltenByDivision_8 : decode cL_minutesUntilMoltenByDivision 8 = .ok (.lastore, 1) := by decide +kernel
theorem dL_minutesUntilMoltenByDivision_9 : decode cL_minutesUntilMoltenByDivision 9 = .ok (.goto 9, 3) := by decide +kernel
theorem dL_minutesUntilMoltenByDivision_12 : decode cL_minutesUntilMoltenByDivision 12 = .ok (.astore_n 3, 1) := by decide +kernel
theorem dL_minutesUntilMoltenByDivision_13 : decode cL_minutesUntilMoltenByDivision 13 = .ok (.iconst 1, 1) := by decide +kernel
theorem dL_minutesUntilMoltenByDivision_14 : decode cL_minutesUntilMoltenByDivision 14 = .ok (.ireturn, 1) := by decide +kernel
theorem dL_minutesUntilMoltenByDivision_15 : decode cL_minutesUntilMoltenByDivision 15 = .ok (.astore_n 3, 1) := by decide +kernel
theorem dL_minutesUntilMoltenByDivision_16 : decode cL_minutesUntilMoltenByDivision 16 = .ok (.iconst 2, 1) := by decide +kernel
theorem dL_minutesUntilMoltenByDivision_17 : decode cL_minutesUntilMoltenByDivision 17 = .ok (.ireturn, 1) := by decide +kernel
theorem dL_minutesUntilMoltenByDivision_18 : decode cL_minutesUntilMoltenByDivision 18 = .ok (.iconst 0, 1) := by decide +kernel
theorem dL_minutesUntilMoltenByDivision_19 : decode cL_minutesUntilMoltenByDivision 19 = .ok (.ireturn, 1) := by decide +kernel
set_option maxRecDepth 20000 in
theorem ggL_furnaceByTemperature_X7_furnaceByTemperature : GoodIn wsL_furnaceByTemperature wsX7_furnaceByTemperature := goodIn_ca (goodIn_ca (goodIn_r _ [6, 7, 8, 9, 10, 11, 12, 13, 14, 15, 16, 17, 18, 19, 20, 21, 22, 23, 24, 25, 26, 27, 28, 29, 30, 31, 32, 33, 34, 35, 36, 37, 38, 39, 40, 41, 42, 43, 44, 45, 46, 47, 48] (by decide +kernel) (by decide +kernel)) (goodIn_sub (fun _ h => List.mem_cons_of_mem _ (List.mem_append_right _ h)) (by decide +kernel))) (goodIn_sub (fun _ h => List.mem_cons_of_mem _ (List.mem_append_left _ (List.mem_append_right _ h))) (by decide +kernel))
set_option maxRecDepth 20000 in
theorem gL_furnaceByTemperature_X7_furnaceByTemperature : GoodIn wsL_furnaceByTemperature (wsV RL 82 RX7 yX7_furnaceByTemperature wsX7_furnaceByTemperature) := goodIn_app (goodIn_of _ (by decide +kernel)) ggL_furnaceByTemperature_X7_furnaceByTemperature
theorem dL_furnaceByTemperature_0 : decode cL_furnaceByTemperature 0 = .ok (.aload_n 2, 1) := by decide +kernel
theorem dL_furnaceByTemperature_1 : decode cL_furnaceByTemperature 1 = .ok (.iconst 0, 1) := by decide +kernel
theorem dL_furnaceByTemperature_2 : decode cL_furnaceByTemperature 2 = .ok (.aload_n 0, 1) := by decide +kernel
theorem dL_furnaceByTemperature_3 : decode cL_furnaceByTemperature 3 = .ok (.iload_n 1, 1) := by decide +kernel
theorem dL_furnaceByTemperature_4 : decode cL_furnaceByTemperature 4 = .ok (.invokevirtual 82, 3) := by decide +kernel
theorem dL_furnaceByTemperature_7 : decode cL_furnaceByTemperature 7 = .ok (.i2l, 1) := by decide +kernel
theorem dL_furnaceByTemperature_8 : decode cL_furnaceByTemperature 8 = .ok (.lastore, 1) := by decide +kernel
theorem dL_furnaceByTemperature_9 : decode cL_furnaceByTemperature 9 = .ok (.goto 6, 3) := by decide +kernel
theorem dL_furnaceByTemperature_12 : decode cL_furnaceByTemperature 12 = .ok (.astore_n 3, 1) := by decide +kernel
theorem dL_furnaceByTemperature_13 : decode cL_furnaceByTemperature 13 = .ok (.iconst 1, 1) := by decide +kernel
theorem dL_furnaceByTemperature_14 : decode cL_furnaceByTemperature 14 = .ok (.ireturn, 1) := by decide +kernel
theorem dL_furnaceByTemperature_15 : decode cL_furnaceByTemperature 15 = .ok (.iconst 0, 1) := by decide +kernel
theorem dL_furnaceByTemperature_16 : decode cL_furnaceByTemperature 16 = .ok (.ireturn, 1) := by decide +kernel
set_option maxRecDepth 20000 in
theorem ggL_ladleMass_X7_ladleMass : GoodIn wsL_ladleMass wsX7_ladleMass := goodIn_ca (goodIn_ca (goodIn_ca (goodIn_r _ [7, 8, 9, 10, 6, 11, 12, 13, 14, 15, 16, 17, 18, 19, 20, 21, 22, 23, 24, 25, 26, 27, 28, 29, 30, 31, 32, 33, 34, 35, 36, 37, 38, 39, 40, 41, 42, 43, 44, 45, 46, 47, 48] (by decide +kernel) (by decide +kernel)) (goodIn_sub (fun _ h => List.mem_cons_of_mem _ (List.mem_append_left _ (List.mem_append_left _ (List.mem_append_right _ h)))) (by decide +kernel))) (goodIn_sub (fun _ h => List.mem_cons_of_mem _ (List.mem_append_left _ (List.mem_append_right _ h))) (by decide +kernel))) (goodIn_sub (fun _ h => List.mem_cons_of_mem _ (List.mem_append_right _ h)) (by decide +kernel))
set_option maxRecDepth 20000 in
theorem gL_ladleMass_X7_ladleMass : GoodIn wsL_ladleMass (wsV RL 85 RX7 yX7_ladleMass wsX7_ladleMass) := goodIn_app (goodIn_of _ (by decide +kernel)) ggL_ladleMass_X7_ladleMass
theorem dL_ladleMass_0 : decode cL_ladleMass 0 = .ok (.aload_n 3, 1) := by decide +kernel
theorem dL_ladleMass_1 : decode cL_ladleMass 1 = .ok (.iconst 0, 1) := by decide +kernel
theorem dL_ladleMass_2 : decode cL_ladleMass 2 = .ok (.aload_n 0, 1) := by decide +kernel
theorem dL_ladleMass_3 : decode cL_ladleMass 3 = .ok (.iload_n 1, 1) := by decide +kernel
theorem dL_ladleMass_4 : decode cL_ladleMass 4 = .ok (.iload_n 2, 1) := by decide +kernel
theorem dL_ladleMass_5 : decode cL_ladleMass 5 = .ok (.invokevirtual 85, 3) := by decide +kernel
theorem dL_ladleMass_8 : decode cL_ladleMass 8 = .ok (.i2l, 1) := by decide +kernel
theorem dL_ladleMass_9 : decode cL_ladleMass 9 = .ok (.lastore, 1) := by decide +kernel
theorem dL_ladleMass_10 : decode cL_ladleMass 10 = .ok (.goto 11, 3) := by decide +kernel
theorem dL_ladleMass_13 : decode cL_ladleMass 13 = .ok (.astore 4, 2) := by decide +kernel
theorem dL_ladleMass_15 : decode cL_ladleMass 15 = .ok (.iconst 1, 1) := by decide +kernel
theorem dL_ladleMass_16 : decode cL_ladleMass 16 = .ok (.ireturn, 1) := by decide +kernel
theorem dL_ladleMass_17 : decode cL_ladleMass 17 = .ok (.astore 4, 2) := by decide +kernel
theorem dL_ladleMass_19 : decode cL_ladleMass 19 = .ok (.iconst 2, 1) := by decide +kernel
theorem dL_ladleMass_20 : decode cL_ladleMass 20 = .ok (.ireturn, 1) := by decide +kernel
theorem dL_ladleMass_21 : decode cL_ladleMass 21 = .ok (.iconst 0, 1) := by decide +kernel
theorem dL_ladleMass_22 : decode cL_ladleMass 22 = .ok (.ireturn, 1) := by decide +kernel
set_option maxRecDepth 20000 in
theorem ggL_ladleTotal_X7_ladleTotal : GoodIn wsL_ladleTotal wsX7_ladleTotal := goodIn_ca (goodIn_ca (goodIn_r _ [6, 7, 8, 9, 5, 10, 11, 12, 13, 14, 15, 16, 17, 18, 19, 20, 21, 22, 23, 24, 25, 26, 27, 28, 29, 30, 31, 32, 33, 34, 35, 36, 37, 38, 39, 40, 41, 42, 43, 44] (by decide +kernel) (by decide +kernel)) (goodIn_sub (fun _ h => List.mem_cons_of_mem _ (List.mem_append_right _ h)) (by decide +kernel))) (goodIn_sub (fun _ h => List.mem_cons_of_mem _ (List.mem_append_left _ (List.mem_append_right _ h))) (by decide +kernel))
set_option maxRecDepth 20000 in
theorem gL_ladleTotal_X7_ladleTotal : GoodIn wsL_ladleTotal (wsV RL 88 RX7 yX7_ladleTotal wsX7_ladleTotal) := goodIn_app (goodIn_of _ (by decide +kernel)) ggL_ladleTotal_X7_ladleTotal
theorem dL_ladleTotal_0 : decode cL_ladleTotal 0 = .ok (.aload_n 2, 1) := by decide +kernel
theorem dL_ladleTotal_1 : decode cL_ladleTotal 1 = .ok (.iconst 0, 1) := by decide +kernel
theorem dL_ladleTotal_2 : decode cL_ladleTotal 2 = .ok (.aload_n 0, 1) := by decide +kernel
theorem dL_ladleTotal_3 : decode cL_ladleTotal 3 = .ok (.iload_n 1, 1) := by decide +kernel
theorem dL_ladleTotal_4 : decode cL_ladleTotal 4 = .ok (.invokevirtual 88, 3) := by decide +kernel
theorem dL_ladleTotal_7 : decode cL_ladleTotal 7 = .ok (.i2l, 1) := by decide +kernel
theorem dL_ladleTotal_8 : decode cL_ladleTotal 8 = .ok (.lastore, 1) := by decide +kernel
theorem dL_ladleTotal_9 : decode cL_ladleTotal 9 = .ok (.goto 6, 3) := by decide +kernel
theorem dL_ladleTotal_12 : decode cL_ladleTotal 12 = .ok (.astore_n 3, 1) := by decide +kernel
theorem dL_ladleTotal_13 : decode cL_ladleTotal 13 = .ok (.iconst 1, 1) := by decide +kernel
theorem dL_ladleTotal_14 : decode cL_ladleTotal 14 = .ok (.ireturn, 1) := by decide +kernel
theorem dL_ladleTotal_15 : decode cL_ladleTotal 15 = .ok (.iconst 0, 1) := by decide +kernel
theorem dL_ladleTotal_16 : decode cL_ladleTotal 16 = .ok (.ireturn, 1) := by decide +kernel
set_option maxRecDepth 20000 in
theorem ggL_ladleTemperature_X7_ladleTemperature : GoodIn wsL_ladleTemperature wsX7_ladleTemperature := goodIn_ca (goodIn_r _ [6, 7, 8, 9, 5, 10, 11, 12, 13, 14, 15, 16, 17, 18, 19, 20, 21, 22, 23, 24, 25, 26, 27, 28, 29, 30, 31, 32, 33, 34, 35, 36, 37] (by decide +kernel) (by decide +kernel)) (goodIn_sub (fun _ h => List.mem_cons_of_mem _ (List.mem_append_right _ h)) (by decide +kernel))
set_option maxRecDepth 20000 in
theorem gL_ladleTemperature_X7_ladleTemperature : GoodIn wsL_ladleTemperature (wsV RL 91 RX7 yX7_ladleTemperature wsX7_ladleTemperature) := goodIn_app (goodIn_of _ (by decide +kernel)) ggL_ladleTemperature_X7_ladleTemperature
theorem dL_ladleTemperature_0 : decode cL_ladleTemperature 0 = .ok (.aload_n 2, 1) := by decide +kernel
theorem dL_ladleTemperature_1 : decode cL_ladleTemperature 1 = .ok (.iconst 0, 1) := by decide +kernel
theorem dL_ladleTemperature_2 : decode cL_ladleTemperature 2 = .ok (.aload_n 0, 1) := by decide +kernel
theorem dL_ladleTemperature_3 : decode cL_ladleTemperature 3 = .ok (.iload_n 1, 1) := by decide +kernel
theorem dL_ladleTemperature_4 : decode cL_ladleTemperature 4 = .ok (.invokevirtual 91, 3) := by decide +kernel
theorem dL_ladleTemperature_7 : decode cL_ladleTemperature 7 = .ok (.i2l, 1) := by decide +kernel
theorem dL_ladleTemperature_8 : decode cL_ladleTemperature 8 = .ok (.lastore, 1) := by decide +kernel
theorem dL_ladleTemperature_9 : decode cL_ladleTemperature 9 = .ok (.goto 6, 3) := by decide +kernel
theorem dL_ladleTemperature_12 : decode cL_ladleTemperature 12 = .ok (.astore_n 3, 1) := by decide +kernel
theorem dL_ladleTemperature_13 : decode cL_ladleTemperature 13 = .ok (.iconst 1, 1) := by decide +kernel
theorem dL_ladleTemperature_14 : decode cL_ladleTemperature 14 = .ok (.ireturn, 1) := by decide +kernel
theorem dL_ladleTemperature_15 : decode cL_ladleTemperature 15 = .ok (.iconst 0, 1) := by decide +kernel
theorem dL_ladleTemperature_16 : decode cL_ladleTemperature 16 = .ok (.ireturn, 1) := by decide +kernel
set_option maxRecDepth 20000 in
theorem ggL_pouringMinutes_X7_pouringMinutes : GoodIn wsL_pouringMinutes wsX7_pouringMinutes := goodIn_ca (goodIn_ca (goodIn_ca (goodIn_ca (goodIn_r _ [7, 8, 9, 10, 11, 12, 6, 13, 14, 15, 16, 17, 18, 19, 20, 21, 22, 23, 24, 25, 26, 27, 28, 29, 30, 31, 32, 33, 34, 35, 36, 37, 38, 39, 40, 41, 42, 43, 44, 45, 46, 47, 48, 49, 50, 51, 52, 53, 54, 55, 56, 57, 58, 59] (by decide +kernel) (by decide +kernel)) (goodIn_sub (fun _ h => List.mem_cons_of_mem _ (List.mem_append_left _ (List.mem_append_left _ (List.mem_append_right _ h)))) (by decide +kernel))) (goodIn_sub (fun _ h => List.mem_cons_of_mem _ (List.mem_append_left _ (List.mem_append_right _ h))) (by decide +kernel))) (goodIn_sub (fun _ h => List.mem_cons_of_mem _ (List.mem_append_left _ (List.mem_append_left _ (List.mem_append_left _ (List.mem_append_right _ h))))) (by decide +kernel))) (goodIn_sub (fun _ h => List.mem_cons_of_mem _ (List.mem_append_right _ h)) (by decide +kernel))
set_option maxRecDepth 20000 in
theorem gL_pouringMinutes_X7_pouringMinutes : GoodIn wsL_pouringMinutes (wsV RL 94 RX7 yX7_pouringMinutes wsX7_pouringMinutes) := goodIn_app (goodIn_of _ (by decide +kernel)) ggL_pouringMinutes_X7_pouringMinutes
theorem dL_pouringMinutes_0 : decode cL_pouringMinutes 0 = .ok (.aload_n 2, 1) := by decide +kernel
theorem dL_pouringMinutes_1 : decode cL_pouringMinutes 1 = .ok (.iconst 0, 1) := by decide +kernel
theorem dL_pouringMinutes_2 : decode cL_pouringMinutes 2 = .ok (.aload_n 0, 1) := by decide +kernel
theorem dL_pouringMinutes_3 : decode cL_pouringMinutes 3 = .ok (.iload_n 1, 1) := by decide +kernel
theorem dL_pouringMinutes_4 : decode cL_pouringMinutes 4 = .ok (.invokevirtual 94, 3) := by decide +kernel
theorem dL_pouringMinutes_7 : decode cL_pouringMinutes 7 = .ok (.i2l, 1) := by decide +kernel
theorem dL_pouringMinutes_8 : decode cL_pouringMinutes 8 = .ok (.lastore, 1) := by decide +kernel
theorem dL_pouringMinutes_9 : decode cL_pouringMinutes 9 = .ok (.goto 9, 3) := by decide +kernel
theorem dL_pouringMinutes_12 : decode cL_pouringMinutes 12 = .ok (.astore_n 3, 1) := by decide +kernel
theorem dL_pouringMinutes_13 : decode cL_pouringMinutes 13 = .ok (.iconst 1, 1) := by decide +kernel
theorem dL_pouringMinutes_14 : decode cL_pouringMinutes 14 = .ok (.ireturn, 1) := by decide +kernel
theorem dL_pouringMinutes_15 : decode cL_pouringMinutes 15 = .ok (.astore_n 3, 1) := by decide +kernel
theorem dL_pouringMinutes_16 : decode cL_pouringMinutes 16 = .ok (.iconst 2, 1) := by decide +kernel
theorem dL_pouringMinutes_17 : decode cL_pouringMinutes 17 = .ok (.ireturn, 1) := by decide +kernel
theorem dL_pouringMinutes_18 : decode cL_pouringMinutes 18 = .ok (.iconst 0, 1) := by decide +kernel
theorem dL_pouringMinutes_19 : decode cL_pouringMinutes 19 = .ok (.ireturn, 1) := by decide +kernel
set_option maxRecDepth 20000 in
theorem ggL_volume_X7_volume : GoodIn wsL_volume wsX7_volume := goodIn_ca (goodIn_ca (goodIn_r _ [6, 7, 8, 9, 5, 10, 11, 12, 13, 14, 15, 16, 17, 18, 19, 20, 21, 22, 23, 24, 25, 26, 27, 28, 29, 30, 31, 32, 33, 34] (by decide +kernel) (by decide +kernel)) (goodIn_sub (fun _ h => List.mem_cons_of_mem _ (List.mem_append_left _ (List.mem_append_right _ h))) (by decide +kernel))) (goodIn_sub (fun _ h => List.mem_cons_of_mem _ (List.mem_append_right _ h)) (by decide +kernel))
set_option maxRecDepth 20000 in
theorem gL_volume_X7_volume : GoodIn wsL_volume (wsV RL 97 RX7 yX7_volume wsX7_volume) := goodIn_app (goodIn_of _ (by decide +kernel)) ggL_volume_X7_volume
theorem dL_volume_0 : decode cL_volume 0 = .ok (.aload_n 2, 1) := by decide +kernel
theorem dL_volume_1 : decode cL_volume 1 = .ok (.iconst 0, 1) := by decide +kernel
theorem dL_volume_2 : decode cL_volume 2 = .ok (.aload_n 0, 1) := by decide +kernel
theorem dL_volume_3 : decode cL_volume 3 = .ok (.iload_n 1, 1) := by decide +kernel
theorem dL_volume_4 : decode cL_volume 4 = .ok (.invokevirtual 97, 3) := by decide +kernel
theorem dL_volume_7 : decode cL_volume 7 = .ok (.i2l, 1) := by decide +kernel
theorem dL_volume_8 : decode cL_volume 8 = .ok (.lastore, 1) := by decide +kernel
theorem dL_volume_9 : decode cL_volume 9 = .ok (.goto 6, 3) := by decide +kernel
theorem dL_volume_12 : decode cL_volume 12 = .ok (.astore_n 3, 1) := by decide +kernel
theorem dL_volume_13 : decode cL_volume 13 = .ok (.iconst 1, 1) := by decide +kernel
theorem dL_volume_14 : decode cL_volume 14 = .ok (.ireturn, 1) := by decide +kernel
theorem dL_volume_15 : decode cL_volume 15 = .ok (.iconst 0, 1) := by decide +kernel
theorem dL_volume_16 : decode cL_volume 16 = .ok (.ireturn, 1) := by decide +kernel
set_option maxRecDepth 20000 in
theorem ggL_isFilled_X7_isFilled : GoodIn wsL_isFilled wsX7_isFilled := goodIn_ca (goodIn_ca (goodIn_r _ [6, 7, 8, 9, 5, 10, 11, 12, 13, 14, 15, 16, 17, 18, 19, 20, 21, 22, 23, 24, 25, 26, 27, 28, 29, 30, 31, 32, 33, 34, 35, 36, 37, 38, 39, 40, 41] (by decide +kernel) (by decide +kernel)) (goodIn_sub (fun _ h => List.mem_cons_of_mem _ (List.mem_append_right _ h)) (by decide +kernel))) (goodIn_sub (fun _ h => List.mem_cons_of_mem _ (List.mem_append_left _ (List.mem_append_right _ h))) (by decide +kernel))
set_option maxRecDepth 20000 in
theorem gL_isFilled_X7_isFilled : GoodIn wsL_isFilled (wsV RL 100 RX7 yX7_isFilled wsX7_isFilled) := goodIn_app (goodIn_of _ (by decide +kernel)) ggL_isFilled_X7_isFilled
theorem dL_isFilled_0 : decode cL_isFilled 0 = .ok (.aload_n 2, 1) := by decide +kernel
theorem dL_isFilled_1 : decode cL_isFilled 1 = .ok (.iconst 0, 1) := by decide +kernel
theorem dL_isFilled_2 : decode cL_isFilled 2 = .ok (.aload_n 0, 1) := by decide +kernel
theorem dL_isFilled_3 : decode cL_isFilled 3 = .ok (.iload_n 1, 1) := by decide +kernel
theorem dL_isFilled_4 : decode cL_isFilled 4 = .ok (.invokevirtual 100, 3) := by decide +kernel
theorem dL_isFilled_7 : decode cL_isFilled 7 = .ok (.ifCond .eq 7, 3) := by decide +kernel
theorem dL_isFilled_10 : decode cL_isFilled 10 = .ok (.lconst 1, 1) := by decide +kernel
