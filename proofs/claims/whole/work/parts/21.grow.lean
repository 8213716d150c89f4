/-! The builder's array grows. -/
theorem qg_200 : Cond.constant "jdk/internal/util/ArraysSupport" 200 2147483639 ∈ lw_all := lw_mem 429 (by decide +kernel) (by decide +kernel)
theorem qg_39 : Cond.constant "java/lang/AbstractStringBuilder" 39 2147483647 ∈ lw_all := lw_mem 433 (by decide +kernel) (by decide +kernel)
theorem qw_98 : Cond.initialized "jdk/internal/util/ArraysSupport" ∈ lw_all := lw_mem 98 (by decide +kernel) (by decide +kernel)
theorem qw_99 : Cond.initialized "java/util/Arrays" ∈ lw_all := lw_mem 99 (by decide +kernel) (by decide +kernel)
theorem qw_286 : Cond.arrayClass FieldType.byte ∈ lw_all := lw_mem 286 (by decide +kernel) (by decide +kernel)
theorem qw_419 : Cond.methodLink "java/lang/AbstractStringBuilder" 104 ⟨"java/lang/AbstractStringBuilder", "newCapacity", "(I)I"⟩ ∈ lw_all := lw_mem 419 (by decide +kernel) (by decide +kernel)
theorem qw_421 : Cond.instanceMethod ⟨"java/lang/AbstractStringBuilder", "newCapacity", "(I)I"⟩ ∈ lw_all := lw_mem 421 (by decide +kernel) (by decide +kernel)
theorem qw_422 : Cond.code ⟨"java/lang/AbstractStringBuilder", "newCapacity", "(I)I"⟩ prog_12_method_10_code 6 (some FieldType.int) ∈ lw_all := lw_mem 422 (by decide +kernel) (by decide +kernel)
theorem qw_423 : Cond.methodLink "java/lang/AbstractStringBuilder" 114 ⟨"jdk/internal/util/ArraysSupport", "newLength", "(III)I"⟩ ∈ lw_all := lw_mem 423 (by decide +kernel) (by decide +kernel)
theorem qw_424 : Cond.static ⟨"jdk/internal/util/ArraysSupport", "newLength", "(III)I"⟩ ∈ lw_all := lw_mem 424 (by decide +kernel) (by decide +kernel)
theorem qw_425 : Cond.code ⟨"jdk/internal/util/ArraysSupport", "newLength", "(III)I"⟩ prog_40_method_27_code 4 (some FieldType.int) ∈ lw_all := lw_mem 425 (by decide +kernel) (by decide +kernel)
theorem qw_426 : Cond.methodLink "jdk/internal/util/ArraysSupport" 194 ⟨"java/lang/Math", "max", "(II)I"⟩ ∈ lw_all := lw_mem 426 (by decide +kernel) (by decide +kernel)
theorem qw_434 : Cond.methodLink "java/lang/AbstractStringBuilder" 108 ⟨"java/util/Arrays", "copyOf", "([BI)[B"⟩ ∈ lw_all := lw_mem 434 (by decide +kernel) (by decide +kernel)
theorem qw_435 : Cond.static ⟨"java/util/Arrays", "copyOf", "([BI)[B"⟩ ∈ lw_all := lw_mem 435 (by decide +kernel) (by decide +kernel)
theorem qw_436 : Cond.code ⟨"java/util/Arrays", "copyOf", "([BI)[B"⟩ prog_38_method_121_code 3 (some (FieldType.array FieldType.byte)) ∈ lw_all := lw_mem 436 (by decide +kernel) (by decide +kernel)
theorem qw_444 : Cond.methodLink "java/util/Arrays" 304 ⟨"java/lang/Math", "min", "(II)I"⟩ ∈ lw_all := lw_mem 444 (by decide +kernel) (by decide +kernel)
theorem qw_447 : Cond.methodLink "java/util/Arrays" 150 ⟨"java/lang/System", "arraycopy", "(Ljava/lang/Object;ILjava/lang/Object;II)V"⟩ ∈ lw_all := lw_mem 447 (by decide +kernel) (by decide +kernel)
theorem qw_1949 : Cond.sameMethod "java/lang/AbstractStringBuilder" "java/lang/AbstractStringBuilder" "newCapacity" "(I)I" ∈ lw_all := lw_mem 1949 (by decide +kernel) (by decide +kernel)
theorem dJ8_newLength_cabcc_0 : decode cJ8_newLength_cabcc 0 = .ok (.iload_n 0, 1) := by decide +kernel
theorem dJ8_newLength_cabcc_1 : decode cJ8_newLength_cabcc 1 = .ok (.iload_n 1, 1) := by decide +kernel
theorem dJ8_newLength_cabcc_2 : decode cJ8_newLength_cabcc 2 = .ok (.iload_n 2, 1) := by decide +kernel
theorem dJ8_newLength_cabcc_3 : decode cJ8_newLength_cabcc 3 = .ok (.invokestatic 194, 3) := by decide +kernel
theorem dJ8_newLength_cabcc_6 : decode cJ8_newLength_cabcc 6 = .ok (.iadd, 1) := by decide +kernel
theorem dJ8_newLength_cabcc_7 : decode cJ8_newLength_cabcc 7 = .ok (.istore_n 3, 1) := by decide +kernel
theorem dJ8_newLength_cabcc_8 : decode cJ8_newLength_cabcc 8 = .ok (.iconst 0, 1) := by decide +kernel
theorem dJ8_newLength_cabcc_9 : decode cJ8_newLength_cabcc 9 = .ok (.iload_n 3, 1) := by decide +kernel
theorem dJ8_newLength_cabcc_10 : decode cJ8_newLength_cabcc 10 = .ok (.if_icmp .ge 11, 3) := by decide +kernel
theorem dJ8_newLength_cabcc_13 : decode cJ8_newLength_cabcc 13 = .ok (.iload_n 3, 1) := by decide +kernel
theorem dJ8_newLength_cabcc_14 : decode cJ8_newLength_cabcc 14 = .ok (.ldc 200, 2) := by decide +kernel
theorem dJ8_newLength_cabcc_16 : decode cJ8_newLength_cabcc 16 = .ok (.if_icmp .gt 5, 3) := by decide +kernel
theorem dJ8_newLength_cabcc_19 : decode cJ8_newLength_cabcc 19 = .ok (.iload_n 3, 1) := by decide +kernel
theorem dJ8_newLength_cabcc_20 : decode cJ8_newLength_cabcc 20 = .ok (.ireturn, 1) := by decide +kernel
theorem dJ8_newLength_cabcc_21 : decode cJ8_newLength_cabcc 21 = .ok (.iload_n 0, 1) := by decide +kernel
theorem dJ8_newLength_cabcc_22 : decode cJ8_newLength_cabcc 22 = .ok (.iload_n 1, 1) := by decide +kernel
theorem dJ8_newLength_cabcc_23 : decode cJ8_newLength_cabcc 23 = .ok (.invokestatic 201, 3) := by decide +kernel
theorem dJ8_newLength_cabcc_26 : decode cJ8_newLength_cabcc 26 = .ok (.ireturn, 1) := by decide +kernel
theorem dJ5_newCapacity_0f7a4_0 : decode cJ5_newCapacity_0f7a4 0 = .ok (.aload_n 0, 1) := by decide +kernel
theorem dJ5_newCapacity_0f7a4_1 : decode cJ5_newCapacity_0f7a4 1 = .ok (.getfield 15, 3) := by decide +kernel
theorem dJ5_newCapacity_0f7a4_4 : decode cJ5_newCapacity_0f7a4 4 = .ok (.arraylength, 1) := by decide +kernel
theorem dJ5_newCapacity_0f7a4_5 : decode cJ5_newCapacity_0f7a4 5 = .ok (.istore_n 2, 1) := by decide +kernel
theorem dJ5_newCapacity_0f7a4_6 : decode cJ5_newCapacity_0f7a4 6 = .ok (.iload_n 1, 1) := by decide +kernel
theorem dJ5_newCapacity_0f7a4_7 : decode cJ5_newCapacity_0f7a4 7 = .ok (.aload_n 0, 1) := by decide +kernel
theorem dJ5_newCapacity_0f7a4_8 : decode cJ5_newCapacity_0f7a4 8 = .ok (.getfield 22, 3) := by decide +kernel
theorem dJ5_newCapacity_0f7a4_11 : decode cJ5_newCapacity_0f7a4 11 = .ok (.ishl, 1) := by decide +kernel
theorem dJ5_newCapacity_0f7a4_12 : decode cJ5_newCapacity_0f7a4 12 = .ok (.istore_n 3, 1) := by decide +kernel
theorem dJ5_newCapacity_0f7a4_13 : decode cJ5_newCapacity_0f7a4 13 = .ok (.iload_n 3, 1) := by decide +kernel
theorem dJ5_newCapacity_0f7a4_14 : decode cJ5_newCapacity_0f7a4 14 = .ok (.iload_n 2, 1) := by decide +kernel
theorem dJ5_newCapacity_0f7a4_15 : decode cJ5_newCapacity_0f7a4 15 = .ok (.isub, 1) := by decide +kernel
theorem dJ5_newCapacity_0f7a4_16 : decode cJ5_newCapacity_0f7a4 16 = .ok (.istore 4, 2) := by decide +kernel
theorem dJ5_newCapacity_0f7a4_18 : decode cJ5_newCapacity_0f7a4 18 = .ok (.iload_n 2, 1) := by decide +kernel
theorem dJ5_newCapacity_0f7a4_19 : decode cJ5_newCapacity_0f7a4 19 = .ok (.iload 4, 2) := by decide +kernel
theorem dJ5_newCapacity_0f7a4_21 : decode cJ5_newCapacity_0f7a4 21 = .ok (.iload_n 2, 1) := by decide +kernel
theorem dJ5_newCapacity_0f7a4_22 : decode cJ5_newCapacity_0f7a4 22 = .ok (.iconst 2, 1) := by decide +kernel
theorem dJ5_newCapacity_0f7a4_23 : decode cJ5_newCapacity_0f7a4 23 = .ok (.aload_n 0, 1) := by decide +kernel
theorem dJ5_newCapacity_0f7a4_24 : decode cJ5_newCapacity_0f7a4 24 = .ok (.getfield 22, 3) := by decide +kernel
theorem dJ5_newCapacity_0f7a4_27 : decode cJ5_newCapacity_0f7a4 27 = .ok (.ishl, 1) := by decide +kernel
theorem dJ5_newCapacity_0f7a4_28 : decode cJ5_newCapacity_0f7a4 28 = .ok (.iadd, 1) := by decide +kernel
theorem dJ5_newCapacity_0f7a4_29 : decode cJ5_newCapacity_0f7a4 29 = .ok (.invokestatic 114, 3) := by decide +kernel
theorem dJ5_newCapacity_0f7a4_32 : decode cJ5_newCapacity_0f7a4 32 = .ok (.istore 5, 2) := by decide +kernel
theorem dJ5_newCapacity_0f7a4_34 : decode cJ5_newCapacity_0f7a4 34 = .ok (.iload 5, 2) := by decide +kernel
theorem dJ5_newCapacity_0f7a4_36 : decode cJ5_newCapacity_0f7a4 36 = .ok (.ldc 39, 2) := by decide +kernel
theorem dJ5_newCapacity_0f7a4_38 : decode cJ5_newCapacity_0f7a4 38 = .ok (.if_icmp .ne 13, 3) := by decide +kernel
theorem dJ5_newCapacity_0f7a4_41 : decode cJ5_newCapacity_0f7a4 41 = .ok (.new 120, 3) := by decide +kernel
theorem dJ5_newCapacity_0f7a4_44 : decode cJ5_newCapacity_0f7a4 44 = .ok (.dup, 1) := by decide +kernel
theorem dJ5_newCapacity_0f7a4_45 : decode cJ5_newCapacity_0f7a4 45 = .ok (.ldc 122, 2) := by decide +kernel
theorem dJ5_newCapacity_0f7a4_47 : decode cJ5_newCapacity_0f7a4 47 = .ok (.invokespecial 124, 3) := by decide +kernel
theorem dJ5_newCapacity_0f7a4_50 : decode cJ5_newCapacity_0f7a4 50 = .ok (.athrow, 1) := by decide +kernel
theorem dJ5_newCapacity_0f7a4_51 : decode cJ5_newCapacity_0f7a4 51 = .ok (.iload 5, 2) := by decide +kernel
theorem dJ5_newCapacity_0f7a4_53 : decode cJ5_newCapacity_0f7a4 53 = .ok (.aload_n 0, 1) := by decide +kernel
theorem dJ5_newCapacity_0f7a4_54 : decode cJ5_newCapacity_0f7a4 54 = .ok (.getfield 22, 3) := by decide +kernel
theorem dJ5_newCapacity_0f7a4_57 : decode cJ5_newCapacity_0f7a4 57 = .ok (.ishr, 1) := by decide +kernel
theorem dJ5_newCapacity_0f7a4_58 : decode cJ5_newCapacity_0f7a4 58 = .ok (.ireturn, 1) := by decide +kernel
theorem dJ7_copyOf_9075b_0 : decode cJ7_copyOf_9075b 0 = .ok (.iload_n 1, 1) := by decide +kernel
theorem dJ7_copyOf_9075b_1 : decode cJ7_copyOf_9075b 1 = .ok (.aload_n 0, 1) := by decide +kernel
theorem dJ7_copyOf_9075b_2 : decode cJ7_copyOf_9075b 2 = .ok (.arraylength, 1) := by decide +kernel
theorem dJ7_copyOf_9075b_3 : decode cJ7_copyOf_9075b 3 = .ok (.if_icmp .ne 11, 3) := by decide +kernel
theorem dJ7_copyOf_9075b_6 : decode cJ7_copyOf_9075b 6 = .ok (.aload_n 0, 1) := by decide +kernel
theorem dJ7_copyOf_9075b_7 : decode cJ7_copyOf_9075b 7 = .ok (.invokevirtual 310, 3) := by decide +kernel
theorem dJ7_copyOf_9075b_10 : decode cJ7_copyOf_9075b 10 = .ok (.checkcast 311, 3) := by decide +kernel
theorem dJ7_copyOf_9075b_13 : decode cJ7_copyOf_9075b 13 = .ok (.areturn, 1) := by decide +kernel
theorem dJ7_copyOf_9075b_14 : decode cJ7_copyOf_9075b 14 = .ok (.iload_n 1, 1) := by decide +kernel
theorem dJ7_copyOf_9075b_15 : decode cJ7_copyOf_9075b 15 = .ok (.newarray .byte, 2) := by decide +kernel
theorem dJ7_copyOf_9075b_17 : decode cJ7_copyOf_9075b 17 = .ok (.astore_n 2, 1) := by decide +kernel
theorem dJ7_copyOf_9075b_18 : decode cJ7_copyOf_9075b 18 = .ok (.aload_n 0, 1) := by decide +kernel
theorem dJ7_copyOf_9075b_19 : decode cJ7_copyOf_9075b 19 = .ok (.iconst 0, 1) := by decide +kernel
theorem dJ7_copyOf_9075b_20 : decode cJ7_copyOf_9075b 20 = .ok (.aload_n 2, 1) := by decide +kernel
theorem dJ7_copyOf_9075b_21 : decode cJ7_copyOf_9075b 21 = .ok (.iconst 0, 1) := by decide +kernel
theorem dJ7_copyOf_9075b_22 : decode cJ7_copyOf_9075b 22 = .ok (.aload_n 0, 1) := by decide +kernel
theorem dJ7_copyOf_9075b_23 : decode cJ7_copyOf_9075b 23 = .ok (.arraylength, 1) := by decide +kernel
theorem dJ7_copyOf_9075b_24 : decode cJ7_copyOf_9075b 24 = .ok (.iload_n 1, 1) := by decide +kernel
theorem dJ7_copyOf_9075b_25 : decode cJ7_copyOf_9075b 25 = .ok (.invokestatic 304, 3) := by decide +kernel
theorem dJ7_copyOf_9075b_28 : decode cJ7_copyOf_9075b 28 = .ok (.invokestatic 150, 3) := by decide +kernel
theorem dJ7_copyOf_9075b_31 : decode cJ7_copyOf_9075b 31 = .ok (.aload_n 2, 1) := by decide +kernel
theorem dJ7_copyOf_9075b_32 : decode cJ7_copyOf_9075b 32 = .ok (.areturn, 1) := by decide +kernel
set_option maxHeartbeats 4000000 in
set_option maxRecDepth 100000 in
theorem cJ8_newLength_cabcc_ok (l : Launch) (G : GT) (X : St) : MetI l G yJ8_newLength_cabcc (wsG yJ8_newLength_cabcc cJ8_newLength_cabcc 4 (some .int)) (rmz 1 40) [.int 16, .int 1, .int 18] X (fun res Y => res = 34 ∧ Y = X) := by
  first | refine g_met (cc := cJ8_newLength_cabcc) (maxL := 4) (ret := (some .int)) (by decide) rfl (Nat.le_of_ble_eq_true rfl) ?_ | refine g_metF (cc := cJ8_newLength_cabcc) (maxL := 4) (ret := (some .int)) (by decide) rfl (Nat.le_of_ble_eq_true rfl) ?_
  intro p e s m below meth c ls C hr hlk hnm hW hl
  have hx := C.1.1
  have hb := C.1.2.1
  have hS : va_S (Ab G) s.heap s.heap [] := va_S.rf
  have hl : lv_has ls 4 [(0, .int 16), (1, .int 1), (2, .int 18)] := hl
  refine lv_iload_n hx hb dJ8_newLength_cabcc_0 rfl (lv_at hl 0 rfl) ?_
  refine lv_iload_n hx hb dJ8_newLength_cabcc_1 rfl (lv_at hl 1 rfl) ?_
  refine lv_iload_n hx hb dJ8_newLength_cabcc_2 rfl (lv_at hl 2 rfl) ?_
  refine va_mmax C.1.1 C.1.2.1 (C.1.2.2.1.trans hl.1.symm) C.1.2.2.2.1 (C.1.2.2.2.2 _ (mc qw_426)) (C.1.2.2.2.2 _ (mc qwx_static)) (C.1.2.2.2.2 _ (mc qwm_init)) (C.1.2.2.2.2 _ (mc qwx_code)) (Nat.le_of_ble_eq_true rfl) (Nat.le_of_ble_eq_true rfl) (Nat.zero_le _) (Nat.zero_le _) dJ8_newLength_cabcc_3 ?_
  refine g_top (y := nI (max 1 18)) (imaxN (a := 1) (b := 18) (by omega) (by omega)) ?_
  refine g_top (y := 18) (by decide) ?_
  refine lv_iadd hx hb dJ8_newLength_cabcc_6 ?_
  refine g_top (y := 34) (by decide) ?_
  refine lv_istore_n (lv' := [(3, .int 34), (0, .int 16), (1, .int 1), (2, .int 18)]) hx hb dJ8_newLength_cabcc_7 rfl hl (by decide) rfl (fun ls_1 hl_2 => ?_)
  refine lv_iconst (v := 0) hx hb dJ8_newLength_cabcc_8 (by decide) ?_
  refine lv_iload_n hx hb dJ8_newLength_cabcc_9 rfl (lv_at hl_2 0 rfl) ?_
  refine lv_icmp_ge (tgt := 21) hx hb dJ8_newLength_cabcc_10 (by decide) (fun h9 => absurd h9 (by decide)) (fun _ => ?_)
  refine lv_iload_n hx hb dJ8_newLength_cabcc_13 rfl (lv_at hl_2 0 rfl) ?_
  refine lv_ldc (v := 2147483639) hx hb C.1.2.2.2.1 (C.1.2.2.2.2 _ (mc qg_200)) dJ8_newLength_cabcc_14 ?_
  refine lv_icmp_gt (tgt := 21) hx hb dJ8_newLength_cabcc_16 (by decide) (fun h9 => absurd h9 (by decide)) (fun _ => ?_)
  refine lv_iload_n hx hb dJ8_newLength_cabcc_19 rfl (lv_at hl_2 0 rfl) ?_
  exact g_iret C hr hlk hW hS dJ8_newLength_cabcc_20 (by exact ⟨rfl, rfl⟩)

set_option maxHeartbeats 4000000 in
set_option maxRecDepth 100000 in
theorem cJ5_newCapacity_0f7a4_ok (l : Launch) (G : GT) (X : St) (hcap : X.2.2.1 = 16) (hcd : X.1 11 8 = 0) : MetI l G yJ5_newCapacity_0f7a4 (wsG yJ5_newCapacity_0f7a4 cJ5_newCapacity_0f7a4 6 (some .int)) (rmz 2 63) [.ref (ad G 722), .int 17] X (fun res Y => res = 34 ∧ Y = X) := by
  first | refine g_met (cc := cJ5_newCapacity_0f7a4) (maxL := 6) (ret := (some .int)) (by decide) rfl (Nat.le_of_ble_eq_true rfl) ?_ | refine g_metF (cc := cJ5_newCapacity_0f7a4) (maxL := 6) (ret := (some .int)) (by decide) rfl (Nat.le_of_ble_eq_true rfl) ?_
  intro p e s m below meth c ls C hr hlk hnm hW hl
  have hx := C.1.1
  have hb := C.1.2.1
  have hS : va_S (Ab G) s.heap s.heap [] := va_S.rf
  have hl : lv_has ls 6 [(0, .ref (ad G 722)), (1, .int 17)] := hl
  refine lv_aload_n hx hb dJ5_newCapacity_0f7a4_0 rfl (lv_at hl 0 rfl) ?_
  refine gSB_value C hW (hwc hwJ4) (mc qw_272) dJ5_newCapacity_0f7a4_1 ?_
  refine g_sblen C hW hcap dJ5_newCapacity_0f7a4_4 ?_
  refine g_top (y := 16) rfl ?_
  refine lv_istore_n (lv' := [(2, .int 16), (0, .ref (ad G 722)), (1, .int 17)]) hx hb dJ5_newCapacity_0f7a4_5 rfl hl (by decide) rfl (fun ls_1 hl_2 => ?_)
  refine lv_iload_n hx hb dJ5_newCapacity_0f7a4_6 rfl (lv_at hl_2 2 rfl) ?_
  refine lv_aload_n hx hb dJ5_newCapacity_0f7a4_7 rfl (lv_at hl_2 1 rfl) ?_
  refine gSB_coder C hW (hwc hwJ4) (mc qw_273) dJ5_newCapacity_0f7a4_8 ?_
  refine g_top (y := 0) hcd ?_
  refine lv_ishl hx hb dJ5_newCapacity_0f7a4_11 ?_
  refine g_top (y := 17) (sb_shl0 _) ?_
  refine lv_istore_n (lv' := [(3, .int 17), (2, .int 16), (0, .ref (ad G 722)), (1, .int 17)]) hx hb dJ5_newCapacity_0f7a4_12 rfl hl_2 (by decide) rfl (fun ls_3 hl_4 => ?_)
  refine lv_iload_n hx hb dJ5_newCapacity_0f7a4_13 rfl (lv_at hl_4 0 rfl) ?_
  refine lv_iload_n hx hb dJ5_newCapacity_0f7a4_14 rfl (lv_at hl_4 1 rfl) ?_
  refine lv_isub hx hb dJ5_newCapacity_0f7a4_15 ?_
  refine g_top (y := 1) (by decide) ?_
  refine lv_istore (lv' := [(4, .int 1), (3, .int 17), (2, .int 16), (0, .ref (ad G 722)), (1, .int 17)]) hx hb dJ5_newCapacity_0f7a4_16 hl_4 (by decide) rfl (fun ls_5 hl_6 => ?_)
  refine lv_iload_n hx hb dJ5_newCapacity_0f7a4_18 rfl (lv_at hl_6 2 rfl) ?_
  refine lv_iload hx hb dJ5_newCapacity_0f7a4_19 (lv_at hl_6 0 rfl) ?_
  refine lv_iload_n hx hb dJ5_newCapacity_0f7a4_21 rfl (lv_at hl_6 2 rfl) ?_
  refine lv_iconst (v := 2) hx hb dJ5_newCapacity_0f7a4_22 (by decide) ?_
  refine lv_aload_n hx hb dJ5_newCapacity_0f7a4_23 rfl (lv_at hl_6 3 rfl) ?_
  refine gSB_coder C hW (hwc hwJ4) (mc qw_273) dJ5_newCapacity_0f7a4_24 ?_
  refine g_top (y := 0) hcd ?_
  refine lv_ishl hx hb dJ5_newCapacity_0f7a4_27 ?_
  refine g_top (y := 2) (sb_shl0 _) ?_
  refine lv_iadd hx hb dJ5_newCapacity_0f7a4_28 ?_
  refine g_top (y := 18) (by decide) ?_
  refine g_calli (va_runS (As := [.int 16, .int 1, .int 18]) (rest := []) C.1 (cJ8_newLength_cabcc_ok l G X) (va_cwS 3 C.1.2.2.2.2 (gS qw_423 qw_424 qw_98 qw_425) rfl rfl rfl (by decide +kernel) ⟨Nat.le_of_ble_eq_true rfl, Nat.le_of_ble_eq_true rfl⟩) (g_pre C hW hS [.int 16, .int 1, .int 18]) rfl rfl hl_6.1 rfl (lv_room (Nat.le_of_ble_eq_true rfl)) dJ5_newCapacity_0f7a4_29 ⟨Nat.zero_le _, Nat.zero_le _⟩) hS (fun r_9 Y_8 H_10 locs_11 hW_12 hS_13 h_7 => ?_)
  obtain ⟨h_7, hy_14⟩ := h_7
  replace hy_14 := hy_14.symm
  subst hy_14
  subst h_7
  refine lv_istore (lv' := [(5, .int 34), (4, .int 1), (3, .int 17), (2, .int 16), (0, .ref (ad G 722)), (1, .int 17)]) hx hb dJ5_newCapacity_0f7a4_32 hl_6 (by decide) rfl (fun ls_15 hl_16 => ?_)
  refine lv_iload hx hb dJ5_newCapacity_0f7a4_34 (lv_at hl_16 0 rfl) ?_
  refine lv_ldc (v := 2147483647) hx hb C.1.2.2.2.1 (C.1.2.2.2.2 _ (mc qg_39)) dJ5_newCapacity_0f7a4_36 ?_
  refine lv_icmp_ne (tgt := 51) hx hb dJ5_newCapacity_0f7a4_38 (by decide) (fun _ => ?_) (fun h9 => absurd h9 (by decide))
  refine lv_iload hx hb dJ5_newCapacity_0f7a4_51 (lv_at hl_16 0 rfl) ?_
  refine lv_aload_n hx hb dJ5_newCapacity_0f7a4_53 rfl (lv_at hl_16 4 rfl) ?_
  refine gSB_coder C hW_12 (hwc hwJ4) (mc qw_273) dJ5_newCapacity_0f7a4_54 ?_
  refine g_top (y := 0) hcd ?_
  refine lv_ishr hx hb dJ5_newCapacity_0f7a4_57 ?_
  refine g_top (y := 34) (sb_shr0 _) ?_
  exact g_iret C hr hlk hW_12 hS_13 dJ5_newCapacity_0f7a4_58 (by exact ⟨rfl, rfl⟩)
theorem wl_app {G : GT} {X : St} {L : va_W} {k : Nat} {e : Nat × va_E} (h : (wl G X)[k]? = some e) : (wl G X ++ L)[k]? = some e := by
  have hk : k < (wl G X).length := (List.getElem?_eq_some_iff.mp h).1
  rw [List.getElem?_append_left hk]
  exact h
theorem wl_len {G : GT} {X : St} : (wl G X).length = 798 := by simp [wl, NK]
theorem wl_last {G : GT} {X : St} {e : Nat × va_E} : (wl G X ++ [e])[798]? = some e := by
  rw [List.getElem?_append_right (by rw [wl_len]; exact Nat.le_refl _), wl_len]
  rfl
theorem wl_setl {G : GT} {X : St} {e e2 : Nat × va_E} : (wl G X ++ [e]).set 798 e2 = wl G X ++ [e2] := by
  rw [List.set_append_right _ _ (by rw [wl_len]; exact Nat.le_refl _), wl_len]
  rfl
theorem Wd.Ab {G : GT} {X : St} {H : Heap} (hW : Wd G X H) {q : Nat} (h : H.size ≤ q) : Ab G q := by
  have h0 : (wl G X)[0]? = some (ad G 0, cell G X 0) := wl_at (by decide) (by decide) rfl
  have h1 : G.2.2.2 ≤ ad G 0 := hW.2.2 0 _ h0
  have h2 : ad G 0 < H.size := (hW.1 0 _ h0).lt
  show G.2.2.2 ≤ q
  omega
/-- the builder's bytes in the longer array -/
def cpB (X : St) : Nat → Int32 := va_cpy X.2.2.2.1 (fun _ => 0) 0 0 16
abbrev sbG (X : St) (a : Nat) : St := (X.1, (a, (34, (cpB X, X.2.2.2.2))))
abbrev g34 (G : GT) (X : St) (q : Nat) : Nat × va_E := (q, .inl (cy G 2, 34, .inl (cpB X)))
abbrev Kq (G : GT) (X : St) : Array Value → State → Outcome → State → Prop := va_Qr (S := Nat) (fun _ => True) (fun q a t => a = q ∧ va_P (gD G) vwCl (wl G X ++ [g34 G X q]) t.heap ∧ va_D (Ab G) (wl G X ++ [g34 G X q])) (Ab G)
abbrev rmg (f L : Nat) : Room := { frames := f, cells := 1, slots := 34, locals := L }
abbrev MetGV (l : Launch) (G : GT) (y : MethodName) (ws : List Cond) (rm : Room) (av : List Value) (X : St) (post : St → Prop) : Prop := Met l y ws rm (Kp G av X) (Kv G post) 1 34 (Ab G)
abbrev MetGR (l : Launch) (G : GT) (y : MethodName) (ws : List Cond) (rm : Room) (av : List Value) (X : St) (post : Nat × St → Prop) : Prop := Met l y ws rm (Kp G av X) (Kr G post) 1 34 (Ab G)
set_option maxHeartbeats 4000000 in
set_option maxRecDepth 100000 in
theorem cJ7_copyOf_ok (l : Launch) (G : GT) (X : St) (hcap : X.2.2.1 = 16) (hfb : ∀ j, j < 16 → fits .byte (.int (X.2.2.2.1 j)) = true) : Met l yJ7_copyOf_9075b (wsG yJ7_copyOf_9075b cJ7_copyOf_9075b 3 (some (.array .byte))) (rmg 1 240) (Kp G [.ref X.2.1, .int 34] X) (Kq G X) 1 34 (Ab G) := by
  first | refine g_met (cc := cJ7_copyOf_9075b) (maxL := 3) (ret := (some (.array .byte))) (by decide) rfl (Nat.le_of_ble_eq_true rfl) ?_ | refine g_metF (cc := cJ7_copyOf_9075b) (maxL := 3) (ret := (some (.array .byte))) (by decide) rfl (Nat.le_of_ble_eq_true rfl) ?_
  intro p e s m below meth c ls C hr hlk hnm hW hl
  have hx := C.1.1
  have hb := C.1.2.1
  have hS : va_S (Ab G) s.heap s.heap [] := va_S.rf
  have hl : lv_has ls 3 [(0, .ref X.2.1), (1, .int 34)] := hl
  refine lv_iload_n hx hb dJ7_copyOf_9075b_0 rfl (lv_at hl 1 rfl) ?_
  refine lv_aload_n hx hb dJ7_copyOf_9075b_1 rfl (lv_at hl 0 rfl) ?_
  refine g_sblen C hW hcap dJ7_copyOf_9075b_2 ?_
  refine lv_icmp_ne (tgt := 14) hx hb dJ7_copyOf_9075b_3 (by decide) (fun _ => ?_) (fun h9 => absurd h9 (by decide))
  refine lv_iload_n hx hb dJ7_copyOf_9075b_14 rfl (lv_at hl 1 rfl) ?_
  refine va_newa (D := gD G) (atype := .byte) C.1.1 C.1.2.1 (C.1.2.2.2.2 _ (mc qw_286)) rfl C.2.1 hW.1 hW.2 hS (fun q hq => hW.Ab hq) (a0 := (34, .inl fun _ => 0)) (N' := 34) (fun cA => rfl) (by decide) rfl (by decide) (by decide) (by decide) dJ7_copyOf_9075b_15 (fun q cA H1 hK1 hP1 hD1 hS1 => ?_)
  have ec : cA = cy G 2 := Option.some.inj ((hK1.2 10 _ rfl).2.symm.trans (C.2.1.2 2 _ rfl).2)
  subst ec
  refine lv_astore_n (lv' := [(2, .ref q), (0, .ref X.2.1), (1, .int 34)]) hx hb dJ7_copyOf_9075b_17 rfl hl (by decide) rfl (fun ls2 hl2 => ?_)
  refine lv_aload_n hx hb dJ7_copyOf_9075b_18 rfl (lv_at hl2 1 rfl) ?_
  refine lv_iconst (v := 0) hx hb dJ7_copyOf_9075b_19 (by decide) ?_
  refine lv_aload_n hx hb dJ7_copyOf_9075b_20 rfl (lv_at hl2 0 rfl) ?_
  refine lv_iconst (v := 0) hx hb dJ7_copyOf_9075b_21 (by decide) ?_
  refine lv_aload_n hx hb dJ7_copyOf_9075b_22 rfl (lv_at hl2 1 rfl) ?_
  refine va_alen (D := gD G) (v := 16) C.1.1 C.1.2.1 C.2.1 hP1 737 2 (wl_app wl_at7) rfl (by show Int32.ofNat X.2.2.1 = 16; rw [hcap]; rfl) dJ7_copyOf_9075b_23 ?_
  refine lv_iload_n hx hb dJ7_copyOf_9075b_24 rfl (lv_at hl2 2 rfl) ?_
  refine va_mmin C.1.1 C.1.2.1 (C.1.2.2.1.trans hl2.1.symm) C.1.2.2.2.1 (C.1.2.2.2.2 _ (mc qw_444)) (C.1.2.2.2.2 _ (mc qwm_static)) (C.1.2.2.2.2 _ (mc qwm_init)) (C.1.2.2.2.2 _ (mc qwm_code)) (Nat.le_of_ble_eq_true rfl) (Nat.le_of_ble_eq_true rfl) (by decide) (by decide) dJ7_copyOf_9075b_25 ?_
  refine g_top (y := 16) (by decide) ?_
  refine va_copyi (D := gD G) (f := X.2.2.2.1) (g := fun _ => 0) (n0 := X.2.2.1) (n1 := 34) (ty := .byte) C.1.1 C.1.2.1 (C.1.2.2.1.trans hl2.1.symm) C.1.2.2.2.1 (C.1.2.2.2.2 _ (mc qw_447)) (C.1.2.2.2.2 _ (mc qwa_native)) (C.1.2.2.2.2 _ (mc qwa_static)) (C.1.2.2.2.2 _ (mc qwa_init)) C.2.1 hP1 hD1 hS1 737 798 2 2 (wl_app wl_at7) wl_last rfl rfl rfl (by decide) (by decide) (by decide) (by rw [hcap]; decide) (by decide) (fun i hi => hfb _ (by have : i < 16 := hi; have h0 : (0 : Int32).toNatClampNeg = 0 := rfl; omega)) (Nat.le_of_ble_eq_true rfl) (Nat.le_of_ble_eq_true rfl) dJ7_copyOf_9075b_28 (fun H2 locs2 hP2 hD2 hS2 => ?_)
  rw [wl_setl] at hP2 hD2
  refine lv_aload_n hx hb dJ7_copyOf_9075b_31 rfl (lv_at hl2 0 rfl) ?_
  exact W.aret C.1.1 C.1.2.1 hr (Or.inr ⟨_, rfl⟩) (Or.inr ⟨_, rfl⟩) (fun t ht hw => ⟨⟨q, q, rfl, trivial, rfl, by rw [ht]; exact hP2, hD2⟩, hS2.F ht⟩) hS2.2.2 dJ7_copyOf_9075b_32 hlk
theorem scell_sbG {G : GT} {X : St} {q : Nat} : ∀ o, o ≠ 22 → o ≠ 7 → scell G (sbG X q) o = scell G X o
  | 0, _, _ => rfl
  | 1, _, _ => rfl
  | 2, _, _ => rfl
  | 3, _, _ => rfl
  | 4, _, _ => rfl
  | 5, _, _ => rfl
  | 6, _, _ => rfl
  | 8, _, _ => rfl
  | 9, _, _ => rfl
  | 10, _, _ => rfl
  | 11, _, _ => rfl
  | 12, _, _ => rfl
  | 13, _, _ => rfl
  | 14, _, _ => rfl
  | 15, _, _ => rfl
  | 16, _, _ => rfl
  | 17, _, _ => rfl
  | 18, _, _ => rfl
  | 19, _, _ => rfl
  | 20, _, _ => rfl
  | 21, _, _ => rfl
  | 7, _, h => absurd rfl h
  | 22, h, _ => absurd rfl h
  | n + 23, _, _ => rfl
/-- the builder takes the longer array; the old one is let go -/
theorem grow_wd {G : GT} {X : St} {q : Nat} {H : Heap} {fs : List Value} (hf : cell G X 722 = .inr (1, fs)) (hP : va_P (gD G) vwCl ((wl G X ++ [g34 G X q]).set 722 (ad G 722, .inr (1, fs.set 0 (.ref q)))) H) (hD : va_D (Ab G) ((wl G X ++ [g34 G X q]).set 722 (ad G 722, .inr (1, fs.set 0 (.ref q))))) : Wd G (sbG X q) H := by
  have ent : ∀ (k : Nat) (e : Nat × va_E), (wl G (sbG X q))[k]? = some e → ((wl G X ++ [g34 G X q]).set 722 (ad G 722, .inr (1, fs.set 0 (.ref q))))[if k = 737 then 798 else k]? = some e ∧ k < 798 := by
    intro k e he
    have hk : k < 798 := by
      have := (List.getElem?_eq_some_iff.mp he).1
      rw [wl_len] at this
      exact this
    refine ⟨?_, hk⟩
    by_cases h7 : k = 737
    · subst h7
      rw [if_pos rfl, List.getElem?_set_ne (by decide), wl_last, ← he, wl_at7]
    · rw [if_neg h7]
      have h1 : (wl G (sbG X q))[k]? = some (ad G k, cell G (sbG X q) k) := wl_at hk h7 rfl
      by_cases h2 : k = 722
      · subst h2
        rw [List.getElem?_set_self (by rw [List.length_append, wl_len]; exact Nat.lt_of_lt_of_le (by decide) (Nat.le_add_right _ _)), ← he, h1]
        have e1 : cell G X 722 = scell G X 7 := cell_s (o := 7)
        rw [e1] at hf
        have e2 : fs = [.ref X.2.1, .int (X.1 11 8), .int (X.1 11 9), .int (X.1 11 10)] := by
          have := hf
          simp only [scell, Sum.inr.injEq, Prod.mk.injEq, true_and] at this
          exact this.symm
        rw [e2, show cell G (sbG X q) 722 = scell G (sbG X q) 7 from cell_s (o := 7)]
        rfl
      · rw [List.getElem?_set_ne (Ne.symm h2)]
        have h3 : (wl G X)[k]? = some (ad G k, cell G X k) := wl_at hk h7 rfl
        rw [wl_app h3, ← he, h1]
        have h4 : cell G (sbG X q) k = cell G X k := by
          unfold cell
          by_cases h5 : k < 715
          · rw [if_pos h5, if_pos h5]
          · rw [if_neg h5, if_neg h5]
            exact scell_sbG _ (by omega) (by omega)
        rw [h4]
  refine ⟨fun k e he => hP _ _ (ent k e he).1, fun i j a b ha hb hab => ?_, fun k e he => hD.2 _ _ (ent k e he).1⟩
  have h1 := hD.1 _ _ _ _ (ent i a ha).1 (ent j b hb).1 hab
  have h2 := (ent i a ha).2
  have h3 := (ent j b hb).2
  by_cases h4 : i = 737 <;> by_cases h5 : j = 737
  · omega
  · rw [if_pos h4, if_neg h5] at h1
    omega
  · rw [if_neg h4, if_pos h5] at h1
    omega
  · rw [if_neg h4, if_neg h5] at h1
    exact h1
set_option maxHeartbeats 4000000 in
set_option maxRecDepth 100000 in
theorem cJ5_ensG_ok (l : Launch) (G : GT) (X : St) (hcap : X.2.2.1 = 16) (hcd : X.1 11 8 = 0) (hfb : ∀ j, j < 16 → fits .byte (.int (X.2.2.2.1 j)) = true) : MetGV l G yJ5_ensureCapacityInternal_d00df (wsG yJ5_ensureCapacityInternal_d00df cJ5_ensureCapacityInternal_d00df 3 none) (rmg 4 600) [.ref (ad G 722), .int 17] X (fun Y => ∃ a, Y = sbG X a) := by
  first | refine g_met (cc := cJ5_ensureCapacityInternal_d00df) (maxL := 3) (ret := none) (by decide) rfl (Nat.le_of_ble_eq_true rfl) ?_ | refine g_metF (cc := cJ5_ensureCapacityInternal_d00df) (maxL := 3) (ret := none) (by decide) rfl (Nat.le_of_ble_eq_true rfl) ?_
  intro p e s m below meth c ls C hr hlk hnm hW hl
  have hx := C.1.1
  have hb := C.1.2.1
  have hS : va_S (Ab G) s.heap s.heap [] := va_S.rf
  have hl : lv_has ls 3 [(0, .ref (ad G 722)), (1, .int 17)] := hl
  refine lv_aload_n hx hb dJ5_ensureCapacityInternal_d00df_0 rfl (lv_at hl 0 rfl) ?_
  refine gSB_value C hW (hwc hwJ4) (mc qw_272) dJ5_ensureCapacityInternal_d00df_1 ?_
  refine g_sblen C hW hcap dJ5_ensureCapacityInternal_d00df_4 ?_
  refine g_top (y := 16) rfl ?_
  refine lv_aload_n hx hb dJ5_ensureCapacityInternal_d00df_5 rfl (lv_at hl 0 rfl) ?_
  refine gSB_coder C hW (hwc hwJ4) (mc qw_273) dJ5_ensureCapacityInternal_d00df_6 ?_
  refine g_top (y := 0) hcd ?_
  refine lv_ishr hx hb dJ5_ensureCapacityInternal_d00df_9 ?_
  refine g_top (y := 16) (sb_shr0 _) ?_
  refine lv_istore_n (lv' := [(2, .int 16), (0, .ref (ad G 722)), (1, .int 17)]) hx hb dJ5_ensureCapacityInternal_d00df_10 rfl hl (by decide) rfl (fun ls_1 hl_2 => ?_)
  refine lv_iload_n hx hb dJ5_ensureCapacityInternal_d00df_11 rfl (lv_at hl_2 2 rfl) ?_
  refine lv_iload_n hx hb dJ5_ensureCapacityInternal_d00df_12 rfl (lv_at hl_2 0 rfl) ?_
  refine lv_isub hx hb dJ5_ensureCapacityInternal_d00df_13 ?_
  refine lv_if_le (tgt := 38) hx hb dJ5_ensureCapacityInternal_d00df_14 (by decide) (fun h9 => absurd h9 (by decide)) (fun _ => ?_)
  refine lv_aload_n hx hb dJ5_ensureCapacityInternal_d00df_17 rfl (lv_at hl_2 1 rfl) ?_
  refine lv_aload_n hx hb dJ5_ensureCapacityInternal_d00df_18 rfl (lv_at hl_2 1 rfl) ?_
  refine gSB_value C hW (hwc hwJ4) (mc qw_272) dJ5_ensureCapacityInternal_d00df_19 ?_
  refine lv_aload_n hx hb dJ5_ensureCapacityInternal_d00df_22 rfl (lv_at hl_2 1 rfl) ?_
  refine lv_iload_n hx hb dJ5_ensureCapacityInternal_d00df_23 rfl (lv_at hl_2 2 rfl) ?_
  refine g_calli (va_runU (As := [.int 17]) (rest := [.ref X.2.1, .ref (ad G 722)]) C.1 (cJ5_newCapacity_0f7a4_ok l G X hcap hcd) (cwP 1 C.1.2.2.2.2 (mc qw_419) (mc qw_1949) (mc qw_421) (mc qw_77) (gN qw_422) rfl rfl rfl (by decide +kernel) ⟨Nat.le_of_ble_eq_true rfl, Nat.le_of_ble_eq_true rfl⟩ (va_Nw.use rfl (C.2.2.1.1 _ nw_45))) (g_rSB C hW hS [.int 17]) rfl rfl hl_2.1 rfl (lv_room (Nat.le_of_ble_eq_true rfl)) dJ5_ensureCapacityInternal_d00df_24 ⟨by decide, by decide⟩) hS (fun r9 Y9 H2 locs2 hW2 hS2 h9 => ?_)
  obtain ⟨h9, hy9⟩ := h9
  replace hy9 := hy9.symm
  subst hy9
  subst h9
  refine lv_aload_n hx hb dJ5_ensureCapacityInternal_d00df_27 rfl (lv_at hl_2 1 rfl) ?_
  refine gSB_coder C hW2 (hwc hwJ4) (mc qw_273) dJ5_ensureCapacityInternal_d00df_28 ?_
  refine g_top (y := 0) hcd ?_
  refine lv_ishl hx hb dJ5_ensureCapacityInternal_d00df_31 ?_
  refine g_top (y := 34) (sb_shl0 _) ?_
  refine va_callr (va_runS (As := [.ref X.2.1, .int 34]) (rest := [.ref (ad G 722)]) C.1 (cJ7_copyOf_ok l G X hcap hfb) (va_cwS 2 C.1.2.2.2.2 (gS qw_434 qw_435 qw_99 qw_436) rfl rfl rfl (by decide +kernel) ⟨Nat.le_of_ble_eq_true rfl, Nat.le_of_ble_eq_true rfl⟩) (g_pre C hW2 hS2 [.ref X.2.1, .int 34]) rfl rfl hl_2.1 rfl (lv_room (Nat.le_of_ble_eq_true rfl)) dJ5_ensureCapacityInternal_d00df_32 ⟨by decide, by decide⟩) hS2 (fun _ _ h => h) (fun _ h => h) (fun q ra t H3 locs3 ht _ _ hB _ _ hS3 => ?_)
  obtain ⟨rfl, hP3, hD3⟩ := hB
  rw [ht] at hP3
  refine va_put (D := gD G) C.1.1 C.1.2.1 C.1.2.2.2.2 (hwc hwJ4) tyJ4 tyJ4_ok nmJ4 C.1.2.2.2.1 C.2.1 hP3 hD3 hS3 722 (wl_app (wl_at nk_722.1 nk_722.2 (cell_s (o := 7)))) (ci := 1) (C := RJ4) (T := TJ4) (N := 4) rfl 0 (by decide) (C.1.2.2.2.2 _ (mc qw_272)) (fun _ h => h) rfl (ty := .array .byte) (v := .ref ra) (by decide +kernel) rfl rfl (Nat.le_of_ble_eq_true rfl) dJ5_ensureCapacityInternal_d00df_35 (fun H4 locs4 hP4 hD4 hS4 => ?_)
  have hW4 : Wd G (sbG X ra) H4 := grow_wd (cell_s (o := 7)) hP4 hD4
  exact g_vret C hr hlk hW4 hS4 dJ5_ensureCapacityInternal_d00df_38 ⟨ra, rfl⟩
set_option maxHeartbeats 4000000 in
set_option maxRecDepth 100000 in
theorem cJ5_appG_ok (l : Launch) (G : GT) (X : St) (hcap : X.2.2.1 = 16) (hcd : X.1 11 8 = 0) (hfb : ∀ j, j < 16 → fits .byte (.int (X.2.2.2.1 j)) = true) (n : Nat) (hcnt : X.1 11 10 = nI n) (hn : n + 4 = 17) (v : Nat) (hv0 : 1000 ≤ v) (hv1 : v < 10000) : MetGR l G yJ5_append_c97b9 (wsG yJ5_append_c97b9 cJ5_append_c97b9 4 (some (.object "java/lang/AbstractStringBuilder"))) (rmg 6 800) [.ref (ad G 722), .int (nI v)] X (fun u => u.1 = 722 ∧ ∃ a, u.2 = setRow (sbB (sbG X a) (upd (upd (upd (upd (cpB X) (n + 3) (nI (48 + v % 100 % 10))) (n + 2) (nI (48 + v % 100 / 10))) (n + 1) (nI (48 + v / 100 % 10))) (n) (nI (48 + v / 100 / 10)))) 11 (upd (X.1 11) (10) (nI (n + 4)))) := by
  first | refine g_met (cc := cJ5_append_c97b9) (maxL := 4) (ret := (some (.object "java/lang/AbstractStringBuilder"))) (by decide) rfl (Nat.le_of_ble_eq_true rfl) ?_ | refine g_metF (cc := cJ5_append_c97b9) (maxL := 4) (ret := (some (.object "java/lang/AbstractStringBuilder"))) (by decide) rfl (Nat.le_of_ble_eq_true rfl) ?_
  intro p e s m below meth c ls C hr hlk hnm hW hl
  have hx := C.1.1
  have hb := C.1.2.1
  have hS : va_S (Ab G) s.heap s.heap [] := va_S.rf
  have hl : lv_has ls 4 [(0, .ref (ad G 722)), (1, .int (nI v))] := hl
  refine lv_aload_n hx hb dJ5_append_c97b9_0 rfl (lv_at hl 0 rfl) ?_
  refine gSB_count C hW (hwc hwJ4) (mc qw_276) dJ5_append_c97b9_1 ?_
  refine g_top (y := nI n) hcnt ?_
  refine lv_istore_n (lv' := [(2, .int (nI n)), (0, .ref (ad G 722)), (1, .int (nI v))]) hx hb dJ5_append_c97b9_4 rfl hl (by decide) rfl (fun ls_1 hl_2 => ?_)
  refine lv_iload_n hx hb dJ5_append_c97b9_5 rfl (lv_at hl_2 0 rfl) ?_
  refine lv_iload_n hx hb dJ5_append_c97b9_6 rfl (lv_at hl_2 2 rfl) ?_
  refine g_calli (va_runS (As := [.int (nI v)]) (rest := [.int (nI n)]) C.1 (cJ6_stringSize4_ok l G X v hv0 hv1) (va_cwS 1 C.1.2.2.2.2 (gS qw_531 qw_532 qw_103 qw_533) rfl rfl rfl (by decide +kernel) ⟨Nat.le_of_ble_eq_true rfl, Nat.le_of_ble_eq_true rfl⟩) (g_pre C hW hS [.int (nI v)]) rfl rfl hl_2.1 rfl (lv_room (Nat.le_of_ble_eq_true rfl)) dJ5_append_c97b9_7 ⟨Nat.zero_le _, Nat.zero_le _⟩) hS (fun r_5 Y_4 H_6 locs_7 hW_8 hS_9 h_3 => ?_)
  obtain ⟨h_3, hy_10⟩ := h_3
  replace hy_10 := hy_10.symm
  subst hy_10
  subst h_3
  refine lv_iadd hx hb dJ5_append_c97b9_10 ?_
  refine g_top (y := nI (n + 4)) (nI_add n 4) ?_
  refine lv_istore_n (lv' := [(3, .int (nI (n + 4))), (2, .int (nI n)), (0, .ref (ad G 722)), (1, .int (nI v))]) hx hb dJ5_append_c97b9_11 rfl hl_2 (by decide) rfl (fun ls_11 hl_12 => ?_)
  refine lv_aload_n hx hb dJ5_append_c97b9_12 rfl (lv_at hl_12 2 rfl) ?_
  refine lv_iload_n hx hb dJ5_append_c97b9_13 rfl (lv_at hl_12 0 rfl) ?_
  have e17 : nI (n + 4) = 17 := by rw [hn]; rfl
  refine g_top (y := 17) e17 ?_
  refine va_callv (va_runU (As := [.int 17]) (rest := []) C.1 (cJ5_ensG_ok l G X hcap hcd hfb) (cwP 1 C.1.2.2.2.2 (mc qw_415) (mc qw_1948) (mc qw_417) (mc qw_77) (gN qw_418) rfl rfl rfl (by decide +kernel) ⟨Nat.le_of_ble_eq_true rfl, Nat.le_of_ble_eq_true rfl⟩ (va_Nw.use rfl (C.2.2.1.1 _ nw_44))) (g_rSB C hW_8 hS_9 [.int 17]) rfl rfl hl_12.1 rfl (lv_room (Nat.le_of_ble_eq_true rfl)) dJ5_append_c97b9_14 ⟨by decide, by decide⟩) hS_9 (fun _ _ h => h) (fun _ h => h) (fun Y9 t9 H_16 locs_17 ht9 _ hp9 hB9 _ _ hS_19 => ?_)
  obtain ⟨a9, hy9⟩ := hp9
  have hW_18 : Wd G (sbG X a9) H_16 := by rw [← ht9, ← hy9]; exact hB9
  have hcap2 : (sbG X a9).2.2.1 = 34 := rfl
  refine lv_aload_n hx hb dJ5_append_c97b9_17 rfl (lv_at hl_12 2 rfl) ?_
  refine g_calli (va_runU (As := []) (rest := []) C.1 (cJ5_isLatin1_aae02_ok l G (sbG X a9) 34 (by decide) hcap2 hcd) (va_cwU 0 C.1.2.2.2.2 (gU qw_450 qw_452 qw_453 qw_451 qw_77 qw_454) rfl rfl rfl rfl (by decide +kernel) ⟨Nat.le_of_ble_eq_true rfl, Nat.le_of_ble_eq_true rfl⟩) (g_rSB C hW_18 hS_19 []) rfl rfl hl_12.1 rfl (lv_room (Nat.le_of_ble_eq_true rfl)) dJ5_append_c97b9_18 ⟨by decide, by decide⟩) hS_19 (fun r_22 Y_21 H_23 locs_24 hW_25 hS_26 h_20 => ?_)
  obtain ⟨h_20, hy_27⟩ := h_20
  replace hy_27 := hy_27.symm
  subst hy_27
  subst h_20
  refine lv_if_eq (tgt := 37) hx hb dJ5_append_c97b9_21 (by decide) (fun h9 => absurd h9 (by decide)) (fun _ => ?_)
  refine lv_iload_n hx hb dJ5_append_c97b9_24 rfl (lv_at hl_12 3 rfl) ?_
  refine lv_iload_n hx hb dJ5_append_c97b9_25 rfl (lv_at hl_12 0 rfl) ?_
  refine lv_aload_n hx hb dJ5_append_c97b9_26 rfl (lv_at hl_12 2 rfl) ?_
  refine gSB_value C hW_25 (hwc hwJ4) (mc qw_272) dJ5_append_c97b9_27 ?_
  refine g_calli (va_runS (As := [.int (nI v), .int (nI (n + 4)), .ref (sbG X a9).2.1]) (rest := []) C.1 (cJ6_getChars4_ok l G (sbG X a9) 34 (by decide) hcap2 n (by omega) v hv0 hv1) (va_cwS 3 C.1.2.2.2.2 (gS qw_534 qw_535 qw_103 qw_536) rfl rfl rfl (by decide +kernel) ⟨Nat.le_of_ble_eq_true rfl, Nat.le_of_ble_eq_true rfl⟩) (g_pre C hW_25 hS_26 [.int (nI v), .int (nI (n + 4)), .ref (sbG X a9).2.1]) rfl rfl hl_12.1 rfl (lv_room (Nat.le_of_ble_eq_true rfl)) dJ5_append_c97b9_30 ⟨by decide, by decide⟩) hS_26 (fun r_30 Y_29 H_31 locs_32 hW_33 hS_34 h_28 => ?_)
  obtain ⟨h_35, h_28⟩ := h_28
  subst h_35
  have hW_36 : Wd G (sbB (sbG X a9) (upd (upd (upd (upd (cpB X) (n + 3) (nI (48 + v % 100 % 10))) (n + 2) (nI (48 + v % 100 / 10))) (n + 1) (nI (48 + v / 100 % 10))) (n) (nI (48 + v / 100 / 10)))) H_31 := Wd.cast h_28 hW_33
  refine lv_pop hx hb dJ5_append_c97b9_33 rfl ?_
  refine lv_goto (tgt := 48) hx hb dJ5_append_c97b9_34 (by decide) ?_
  refine lv_aload_n hx hb dJ5_append_c97b9_48 rfl (lv_at hl_12 2 rfl) ?_
  refine lv_iload_n hx hb dJ5_append_c97b9_49 rfl (lv_at hl_12 0 rfl) ?_
  refine gSB_countP C hW_36 hS_34 (hwc hwJ4) (mc qw_276) dJ5_append_c97b9_50 (fun H_37 locs_38 hW_39 hS_40 => ?_)
  obtain ⟨w_41, ew_41⟩ : ∃ Z9, Z9 = upd (X.1 11) (10) (nI (n + 4)) := ⟨_, rfl⟩
  have kn_42 : w_41 (8) = 0 := by rw [ew_41]; exact (pk_un (by omega)).trans hcd
  have kn_43 : w_41 (10) = nI (n + 4) := by rw [ew_41]; exact pk_us
  have hW_44 : Wd G (setRow (sbB (sbG X a9) (upd (upd (upd (upd (cpB X) (n + 3) (nI (48 + v % 100 % 10))) (n + 2) (nI (48 + v % 100 / 10))) (n + 1) (nI (48 + v / 100 % 10))) (n) (nI (48 + v / 100 / 10)))) 11 w_41) H_37 := Wd.cast (by rw [ew_41]; exact st_base) hW_39
  refine lv_aload_n hx hb dJ5_append_c97b9_53 rfl (lv_at hl_12 2 rfl) ?_
  exact g_aret C hr hlk hW_44 hS_40 dJ5_append_c97b9_54 (by subst ew_41; exact ⟨rfl, a9, rfl⟩)
set_option maxHeartbeats 4000000 in
set_option maxRecDepth 100000 in
theorem cJ4_appG_ok (l : Launch) (G : GT) (X : St) (hcap : X.2.2.1 = 16) (hcd : X.1 11 8 = 0) (hfb : ∀ j, j < 16 → fits .byte (.int (X.2.2.2.1 j)) = true) (n : Nat) (hcnt : X.1 11 10 = nI n) (hn : n + 4 = 17) (v : Nat) (hv0 : 1000 ≤ v) (hv1 : v < 10000) : MetGR l G yJ4_append_bf812 (wsG yJ4_append_bf812 cJ4_append_bf812 2 (some (.object "java/lang/StringBuilder"))) (rmg 7 1000) [.ref (ad G 722), .int (nI v)] X (fun u => u.1 = 722 ∧ ∃ a, u.2 = setRow (sbB (sbG X a) (upd (upd (upd (upd (cpB X) (n + 3) (nI (48 + v % 100 % 10))) (n + 2) (nI (48 + v % 100 / 10))) (n + 1) (nI (48 + v / 100 % 10))) (n) (nI (48 + v / 100 / 10)))) 11 (upd (X.1 11) (10) (nI (n + 4)))) := by
  first | refine g_met (cc := cJ4_append_bf812) (maxL := 2) (ret := (some (.object "java/lang/StringBuilder"))) (by decide) rfl (Nat.le_of_ble_eq_true rfl) ?_ | refine g_metF (cc := cJ4_append_bf812) (maxL := 2) (ret := (some (.object "java/lang/StringBuilder"))) (by decide) rfl (Nat.le_of_ble_eq_true rfl) ?_
  intro p e s m below meth c ls C hr hlk hnm hW hl
  have hx := C.1.1
  have hb := C.1.2.1
  have hS : va_S (Ab G) s.heap s.heap [] := va_S.rf
  have hl : lv_has ls 2 [(0, .ref (ad G 722)), (1, .int (nI v))] := hl
  refine lv_aload_n hx hb dJ4_append_bf812_0 rfl (lv_at hl 0 rfl) ?_
  refine lv_iload_n hx hb dJ4_append_bf812_1 rfl (lv_at hl 1 rfl) ?_
  refine va_callr (va_runSU (C.2.1.1 1 _ rfl).2 (As := [.int (nI v)]) (rest := []) C.1 (cJ5_appG_ok l G X hcap hcd hfb n hcnt hn v hv0 hv1) (va_cwSU 1 C.1.2.2.2.2 (gSU qw_528 qw_1953 qw_285 qw_529 qw_77 qw_530) rfl rfl rfl (by decide +kernel) ⟨Nat.le_of_ble_eq_true rfl, Nat.le_of_ble_eq_true rfl⟩) (g_rSB C hW hS [.int (nI v)]) rfl rfl hl.1 rfl (lv_room (Nat.le_of_ble_eq_true rfl)) dJ4_append_bf812_2 ⟨by decide, by decide⟩) hS (fun _ _ h => h) (fun _ h => h) (fun u9 ra9 t9 H4 locs4 ht9 _ hp9 hB9 _ _ hS4 => ?_)
  obtain ⟨hr9, a9, hy9⟩ := hp9
  obtain ⟨hb9, hW9⟩ := hB9
  have hW4 : Wd G u9.2 H4 := by rw [← ht9]; exact hW9
  refine lv_pop hx hb dJ4_append_bf812_5 (by rw [hb9]; rfl) ?_
  refine lv_aload_n hx hb dJ4_append_bf812_6 rfl (lv_at hl 0 rfl) ?_
  exact g_aret C hr hlk hW4 hS4 dJ4_append_bf812_7 ⟨rfl, a9, hy9⟩
