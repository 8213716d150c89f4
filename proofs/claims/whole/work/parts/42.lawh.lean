/-! The law's helpers, one by one: for any contract of the class's method. -/
set_option maxHeartbeats 1000000 in
theorem hL_charge (l : Launch) (G : GT) (X : St) (x y z : Int32) {k f n : Nat} {post : Int32 → St → Prop} {postx : String → St → Prop} (hM : MetXI l G k yX7_charge (wsG yX7_charge cX7_charge 4 (some .int)) (rmk k f n) [.ref (ad G 715), .int x, .int y, .int z] X post postx) (hmem : ∀ (E : String) (Y : St), postx E Y → E ∈ ["java/lang/IndexOutOfBoundsException", "java/lang/IllegalArgumentException", "java/lang/UnsupportedOperationException"]) : MetXI l G k yL_charge (wsW yL_charge cL_charge 6 (some .int) [(0, 12, 15, 13), (0, 12, 19, 15), (0, 12, 23, 17)]) (rmk k (f + 1) (n + 23)) [.ref (ad G 715), .int x, .int y, .int z, .ref (ad G 735)] X (lpost ["java/lang/IndexOutOfBoundsException", "java/lang/IllegalArgumentException", "java/lang/UnsupportedOperationException"] id post postx) nox := by
  refine g_metW (cc := cL_charge) (maxL := 6) (ret := some .int) (hh := [(0, 12, 15, 13), (0, 12, 19, 15), (0, 12, 23, 17)]) (by decide) rfl (Nat.le_of_ble_eq_true rfl) ?_
  intro p e s m below meth c ls C hr hlk htab hW hl
  have hx := C.1.1
  have hb := C.1.2.1
  have hS : va_S (Ab G) s.heap s.heap [] := va_S.rf
  have hl : lv_has ls 6 [(0, .ref (ad G 715)), (1, .int x), (2, .int y), (3, .int z), (4, .ref (ad G 735))] := hl
  refine lv_aload hx hb dL_charge_0 (lv_at hl 4 rfl) ?_
  refine lv_iconst (v := 0) hx hb dL_charge_2 (by decide) ?_
  refine lv_aload_n hx hb dL_charge_3 rfl (lv_at hl 0 rfl) ?_
  refine lv_iload_n hx hb dL_charge_4 rfl (lv_at hl 1 rfl) ?_
  refine lv_iload_n hx hb dL_charge_5 rfl (lv_at hl 2 rfl) ?_
  refine lv_iload_n hx hb dL_charge_6 rfl (lv_at hl 3 rfl) ?_
  refine g_cxi (vx_runV (As := [.int x, .int y, .int z]) (rest := [.int 0, .ref (ad G 735)]) C.1 hM (cwV 3 C.1.2.2.2.2 (gVW qw_794 qw_795 qw_796 qw_71 qw_797) rfl rfl rfl (by decide +kernel) ⟨Nat.le_refl _, by show 8 + (4 + 11) + n ≤ n + 23; omega⟩) (g_rFoundry C hW hS [.int x, .int y, .int z]) rfl rfl hl.1 rfl (lv_room (Nat.le_of_ble_eq_true rfl)) dL_charge_7 ⟨Nat.le_of_eq (Nat.zero_add _), Nat.le_of_eq (Nat.zero_add _)⟩) hS ?_ ?_
  · intro E9 ce9 q9 Y H9 locs9 hW9 hS9 hp h91 h92 h93
    have hE := hmem _ _ hp
    simp only [List.mem_cons, List.not_mem_nil, or_false] at hE
    rcases hE with rfl | rfl | rfl
    · refine lw_catch C htab [] (0, 12, 15, 13) [(0, 12, 19, 15), (0, 12, 23, 17)] rfl (by decide +kernel) (by decide) rfl h91 h92 h93 ?_
      refine lv_astore hx hb dL_charge_15 hl (by decide) rfl (fun ls2 hl2 => ?_)
      exact lw_num C hr hlk hW9 hS9 (i := 0) rfl hp (v := 1) (by decide) (by decide) dL_charge_17 dL_charge_18 (Nat.le_of_eq (Nat.zero_add _)) (Nat.le_of_eq (Nat.zero_add _))
    · refine lw_catch C htab [(0, 12, 15, 13)] (0, 12, 19, 15) [(0, 12, 23, 17)] rfl (by decide +kernel) (by decide) rfl h91 h92 h93 ?_
      refine lv_astore hx hb dL_charge_19 hl (by decide) rfl (fun ls2 hl2 => ?_)
      exact lw_num C hr hlk hW9 hS9 (i := 1) rfl hp (v := 2) (by decide) (by decide) dL_charge_21 dL_charge_22 (Nat.le_of_eq (Nat.zero_add _)) (Nat.le_of_eq (Nat.zero_add _))
    · refine lw_catch C htab [(0, 12, 15, 13), (0, 12, 19, 15)] (0, 12, 23, 17) [] rfl (by decide +kernel) (by decide) rfl h91 h92 h93 ?_
      refine lv_astore hx hb dL_charge_23 hl (by decide) rfl (fun ls2 hl2 => ?_)
      exact lw_num C hr hlk hW9 hS9 (i := 2) rfl hp (v := 3) (by decide) (by decide) dL_charge_25 dL_charge_26 (Nat.le_of_eq (Nat.zero_add _)) (Nat.le_of_eq (Nat.zero_add _))
  intro r Y H1 locs1 hW1 hS1 hp
  refine lv_i2l hx hb dL_charge_10 rfl ?_
  exact lw_tail (g := id) C hr hlk hW1 hS1 hp rfl dL_charge_11 dL_charge_12 (tgt := 27) (by decide) dL_charge_27 dL_charge_28 (Nat.le_of_eq (Nat.zero_add _)) (Nat.le_of_eq (Nat.zero_add _))
set_option maxHeartbeats 1000000 in
theorem hL_setFire (l : Launch) (G : GT) (X : St) (x y : Int32) {k f n : Nat} {post : Int32 → St → Prop} {postx : String → St → Prop} (hM : MetXI l G k yX7_setFire (wsG yX7_setFire cX7_setFire 3 (some .int)) (rmk k f n) [.ref (ad G 715), .int x, .int y] X post postx) (hmem : ∀ (E : String) (Y : St), postx E Y → E ∈ ["java/lang/IndexOutOfBoundsException", "java/lang/IllegalArgumentException"]) : MetXI l G k yL_setFire (wsW yL_setFire cL_setFire 5 (some .int) [(0, 10, 13, 13), (0, 10, 17, 15)]) (rmk k (f + 1) (n + 22)) [.ref (ad G 715), .int x, .int y, .ref (ad G 735)] X (lpost ["java/lang/IndexOutOfBoundsException", "java/lang/IllegalArgumentException"] id post postx) nox := by
  refine g_metW (cc := cL_setFire) (maxL := 5) (ret := some .int) (hh := [(0, 10, 13, 13), (0, 10, 17, 15)]) (by decide) rfl (Nat.le_of_ble_eq_true rfl) ?_
  intro p e s m below meth c ls C hr hlk htab hW hl
  have hx := C.1.1
  have hb := C.1.2.1
  have hS : va_S (Ab G) s.heap s.heap [] := va_S.rf
  have hl : lv_has ls 5 [(0, .ref (ad G 715)), (1, .int x), (2, .int y), (3, .ref (ad G 735))] := hl
  refine lv_aload_n hx hb dL_setFire_0 rfl (lv_at hl 3 rfl) ?_
  refine lv_iconst (v := 0) hx hb dL_setFire_1 (by decide) ?_
  refine lv_aload_n hx hb dL_setFire_2 rfl (lv_at hl 0 rfl) ?_
  refine lv_iload_n hx hb dL_setFire_3 rfl (lv_at hl 1 rfl) ?_
  refine lv_iload_n hx hb dL_setFire_4 rfl (lv_at hl 2 rfl) ?_
  refine g_cxi (vx_runV (As := [.int x, .int y]) (rest := [.int 0, .ref (ad G 735)]) C.1 hM (cwV 2 C.1.2.2.2.2 (gVW qw_991 qw_992 qw_993 qw_71 qw_994) rfl rfl rfl (by decide +kernel) ⟨Nat.le_refl _, by show 8 + (3 + 11) + n ≤ n + 22; omega⟩) (g_rFoundry C hW hS [.int x, .int y]) rfl rfl hl.1 rfl (lv_room (Nat.le_of_ble_eq_true rfl)) dL_setFire_5 ⟨Nat.le_of_eq (Nat.zero_add _), Nat.le_of_eq (Nat.zero_add _)⟩) hS ?_ ?_
  · intro E9 ce9 q9 Y H9 locs9 hW9 hS9 hp h91 h92 h93
    have hE := hmem _ _ hp
    simp only [List.mem_cons, List.not_mem_nil, or_false] at hE
    rcases hE with rfl | rfl
    · refine lw_catch C htab [] (0, 10, 13, 13) [(0, 10, 17, 15)] rfl (by decide +kernel) (by decide) rfl h91 h92 h93 ?_
      refine lv_astore hx hb dL_setFire_13 hl (by decide) rfl (fun ls2 hl2 => ?_)
      exact lw_num C hr hlk hW9 hS9 (i := 0) rfl hp (v := 1) (by decide) (by decide) dL_setFire_15 dL_setFire_16 (Nat.le_of_eq (Nat.zero_add _)) (Nat.le_of_eq (Nat.zero_add _))
    · refine lw_catch C htab [(0, 10, 13, 13)] (0, 10, 17, 15) [] rfl (by decide +kernel) (by decide) rfl h91 h92 h93 ?_
      refine lv_astore hx hb dL_setFire_17 hl (by decide) rfl (fun ls2 hl2 => ?_)
      exact lw_num C hr hlk hW9 hS9 (i := 1) rfl hp (v := 2) (by decide) (by decide) dL_setFire_19 dL_setFire_20 (Nat.le_of_eq (Nat.zero_add _)) (Nat.le_of_eq (Nat.zero_add _))
  intro r Y H1 locs1 hW1 hS1 hp
  refine lv_i2l hx hb dL_setFire_8 rfl ?_
  exact lw_tail (g := id) C hr hlk hW1 hS1 hp rfl dL_setFire_9 dL_setFire_10 (tgt := 21) (by decide) dL_setFire_21 dL_setFire_22 (Nat.le_of_eq (Nat.zero_add _)) (Nat.le_of_eq (Nat.zero_add _))
set_option maxHeartbeats 1000000 in
theorem hL_skim (l : Launch) (G : GT) (X : St) (x : Int32) {k f n : Nat} {post : Int32 → St → Prop} {postx : String → St → Prop} (hM : MetXI l G k yX7_skim (wsG yX7_skim cX7_skim 2 (some .int)) (rmk k f n) [.ref (ad G 715), .int x] X post postx) (hmem : ∀ (E : String) (Y : St), postx E Y → E ∈ ["java/lang/IndexOutOfBoundsException", "java/util/NoSuchElementException", "java/lang/IllegalStateException"]) : MetXI l G k yL_skim (wsW yL_skim cL_skim 4 (some .int) [(0, 9, 12, 13), (0, 9, 15, 27), (0, 9, 18, 29)]) (rmk k (f + 1) (n + 21)) [.ref (ad G 715), .int x, .ref (ad G 735)] X (lpost ["java/lang/IndexOutOfBoundsException", "java/util/NoSuchElementException", "java/lang/IllegalStateException"] id post postx) nox := by
  refine g_metW (cc := cL_skim) (maxL := 4) (ret := some .int) (hh := [(0, 9, 12, 13), (0, 9, 15, 27), (0, 9, 18, 29)]) (by decide) rfl (Nat.le_of_ble_eq_true rfl) ?_
  intro p e s m below meth c ls C hr hlk htab hW hl
  have hx := C.1.1
  have hb := C.1.2.1
  have hS : va_S (Ab G) s.heap s.heap [] := va_S.rf
  have hl : lv_has ls 4 [(0, .ref (ad G 715)), (1, .int x), (2, .ref (ad G 735))] := hl
  refine lv_aload_n hx hb dL_skim_0 rfl (lv_at hl 2 rfl) ?_
  refine lv_iconst (v := 0) hx hb dL_skim_1 (by decide) ?_
  refine lv_aload_n hx hb dL_skim_2 rfl (lv_at hl 0 rfl) ?_
  refine lv_iload_n hx hb dL_skim_3 rfl (lv_at hl 1 rfl) ?_
  refine g_cxi (vx_runV (As := [.int x]) (rest := [.int 0, .ref (ad G 735)]) C.1 hM (cwV 1 C.1.2.2.2.2 (gVW qw_1002 qw_1003 qw_1004 qw_71 qw_1005) rfl rfl rfl (by decide +kernel) ⟨Nat.le_refl _, by show 8 + (2 + 11) + n ≤ n + 21; omega⟩) (g_rFoundry C hW hS [.int x]) rfl rfl hl.1 rfl (lv_room (Nat.le_of_ble_eq_true rfl)) dL_skim_4 ⟨Nat.le_of_eq (Nat.zero_add _), Nat.le_of_eq (Nat.zero_add _)⟩) hS ?_ ?_
  · intro E9 ce9 q9 Y H9 locs9 hW9 hS9 hp h91 h92 h93
    have hE := hmem _ _ hp
    simp only [List.mem_cons, List.not_mem_nil, or_false] at hE
    rcases hE with rfl | rfl | rfl
    · refine lw_catch C htab [] (0, 9, 12, 13) [(0, 9, 15, 27), (0, 9, 18, 29)] rfl (by decide +kernel) (by decide) rfl h91 h92 h93 ?_
      refine lv_astore_n hx hb dL_skim_12 rfl hl (by decide) rfl (fun ls2 hl2 => ?_)
      exact lw_num C hr hlk hW9 hS9 (i := 0) rfl hp (v := 1) (by decide) (by decide) dL_skim_13 dL_skim_14 (Nat.le_of_eq (Nat.zero_add _)) (Nat.le_of_eq (Nat.zero_add _))
    · refine lw_catch C htab [(0, 9, 12, 13)] (0, 9, 15, 27) [(0, 9, 18, 29)] rfl (by decide +kernel) (by decide) rfl h91 h92 h93 ?_
      refine lv_astore_n hx hb dL_skim_15 rfl hl (by decide) rfl (fun ls2 hl2 => ?_)
      exact lw_num C hr hlk hW9 hS9 (i := 1) rfl hp (v := 2) (by decide) (by decide) dL_skim_16 dL_skim_17 (Nat.le_of_eq (Nat.zero_add _)) (Nat.le_of_eq (Nat.zero_add _))
    · refine lw_catch C htab [(0, 9, 12, 13), (0, 9, 15, 27)] (0, 9, 18, 29) [] rfl (by decide +kernel) (by decide) rfl h91 h92 h93 ?_
      refine lv_astore_n hx hb dL_skim_18 rfl hl (by decide) rfl (fun ls2 hl2 => ?_)
      exact lw_num C hr hlk hW9 hS9 (i := 2) rfl hp (v := 3) (by decide) (by decide) dL_skim_19 dL_skim_20 (Nat.le_of_eq (Nat.zero_add _)) (Nat.le_of_eq (Nat.zero_add _))
  intro r Y H1 locs1 hW1 hS1 hp
  refine lv_i2l hx hb dL_skim_7 rfl ?_
  exact lw_tail (g := id) C hr hlk hW1 hS1 hp rfl dL_skim_8 dL_skim_9 (tgt := 21) (by decide) dL_skim_21 dL_skim_22 (Nat.le_of_eq (Nat.zero_add _)) (Nat.le_of_eq (Nat.zero_add _))
set_option maxHeartbeats 1000000 in
theorem hL_tap (l : Launch) (G : GT) (X : St) (x y z : Int32) {k f n : Nat} {post : Int32 → St → Prop} {postx : String → St → Prop} (hM : MetXI l G k yX7_tap (wsG yX7_tap cX7_tap 4 (some .int)) (rmk k f n) [.ref (ad G 715), .int x, .int y, .int z] X post postx) (hmem : ∀ (E : String) (Y : St), postx E Y → E ∈ ["java/lang/IndexOutOfBoundsException", "java/lang/IllegalArgumentException", "java/util/NoSuchElementException", "java/lang/IllegalStateException", "java/lang/UnsupportedOperationException"]) : MetXI l G k yL_tap (wsW yL_tap cL_tap 6 (some .int) [(0, 12, 15, 13), (0, 12, 19, 15), (0, 12, 23, 27), (0, 12, 27, 29), (0, 12, 31, 17)]) (rmk k (f + 1) (n + 23)) [.ref (ad G 715), .int x, .int y, .int z, .ref (ad G 735)] X (lpost ["java/lang/IndexOutOfBoundsException", "java/lang/IllegalArgumentException", "java/util/NoSuchElementException", "java/lang/IllegalStateException", "java/lang/UnsupportedOperationException"] id post postx) nox := by
  refine g_metW (cc := cL_tap) (maxL := 6) (ret := some .int) (hh := [(0, 12, 15, 13), (0, 12, 19, 15), (0, 12, 23, 27), (0, 12, 27, 29), (0, 12, 31, 17)]) (by decide) rfl (Nat.le_of_ble_eq_true rfl) ?_
  intro p e s m below meth c ls C hr hlk htab hW hl
  have hx := C.1.1
  have hb := C.1.2.1
  have hS : va_S (Ab G) s.heap s.heap [] := va_S.rf
  have hl : lv_has ls 6 [(0, .ref (ad G 715)), (1, .int x), (2, .int y), (3, .int z), (4, .ref (ad G 735))] := hl
  refine lv_aload hx hb dL_tap_0 (lv_at hl 4 rfl) ?_
  refine lv_iconst (v := 0) hx hb dL_tap_2 (by decide) ?_
  refine lv_aload_n hx hb dL_tap_3 rfl (lv_at hl 0 rfl) ?_
  refine lv_iload_n hx hb dL_tap_4 rfl (lv_at hl 1 rfl) ?_
  refine lv_iload_n hx hb dL_tap_5 rfl (lv_at hl 2 rfl) ?_
  refine lv_iload_n hx hb dL_tap_6 rfl (lv_at hl 3 rfl) ?_
  refine g_cxi (vx_runV (As := [.int x, .int y, .int z]) (rest := [.int 0, .ref (ad G 735)]) C.1 hM (cwV 3 C.1.2.2.2.2 (gVW qw_1011 qw_1012 qw_1013 qw_71 qw_1014) rfl rfl rfl (by decide +kernel) ⟨Nat.le_refl _, by show 8 + (4 + 11) + n ≤ n + 23; omega⟩) (g_rFoundry C hW hS [.int x, .int y, .int z]) rfl rfl hl.1 rfl (lv_room (Nat.le_of_ble_eq_true rfl)) dL_tap_7 ⟨Nat.le_of_eq (Nat.zero_add _), Nat.le_of_eq (Nat.zero_add _)⟩) hS ?_ ?_
  · intro E9 ce9 q9 Y H9 locs9 hW9 hS9 hp h91 h92 h93
    have hE := hmem _ _ hp
    simp only [List.mem_cons, List.not_mem_nil, or_false] at hE
    rcases hE with rfl | rfl | rfl | rfl | rfl
    · refine lw_catch C htab [] (0, 12, 15, 13) [(0, 12, 19, 15), (0, 12, 23, 27), (0, 12, 27, 29), (0, 12, 31, 17)] rfl (by decide +kernel) (by decide) rfl h91 h92 h93 ?_
      refine lv_astore hx hb dL_tap_15 hl (by decide) rfl (fun ls2 hl2 => ?_)
      exact lw_num C hr hlk hW9 hS9 (i := 0) rfl hp (v := 1) (by decide) (by decide) dL_tap_17 dL_tap_18 (Nat.le_of_eq (Nat.zero_add _)) (Nat.le_of_eq (Nat.zero_add _))
    · refine lw_catch C htab [(0, 12, 15, 13)] (0, 12, 19, 15) [(0, 12, 23, 27), (0, 12, 27, 29), (0, 12, 31, 17)] rfl (by decide +kernel) (by decide) rfl h91 h92 h93 ?_
      refine lv_astore hx hb dL_tap_19 hl (by decide) rfl (fun ls2 hl2 => ?_)
      exact lw_num C hr hlk hW9 hS9 (i := 1) rfl hp (v := 2) (by decide) (by decide) dL_tap_21 dL_tap_22 (Nat.le_of_eq (Nat.zero_add _)) (Nat.le_of_eq (Nat.zero_add _))
    · refine lw_catch C htab [(0, 12, 15, 13), (0, 12, 19, 15)] (0, 12, 23, 27) [(0, 12, 27, 29), (0, 12, 31, 17)] rfl (by decide +kernel) (by decide) rfl h91 h92 h93 ?_
      refine lv_astore hx hb dL_tap_23 hl (by decide) rfl (fun ls2 hl2 => ?_)
      exact lw_num C hr hlk hW9 hS9 (i := 2) rfl hp (v := 3) (by decide) (by decide) dL_tap_25 dL_tap_26 (Nat.le_of_eq (Nat.zero_add _)) (Nat.le_of_eq (Nat.zero_add _))
    · refine lw_catch C htab [(0, 12, 15, 13), (0, 12, 19, 15), (0, 12, 23, 27)] (0, 12, 27, 29) [(0, 12, 31, 17)] rfl (by decide +kernel) (by decide) rfl h91 h92 h93 ?_
      refine lv_astore hx hb dL_tap_27 hl (by decide) rfl (fun ls2 hl2 => ?_)
      exact lw_num C hr hlk hW9 hS9 (i := 3) rfl hp (v := 4) (by decide) (by decide) dL_tap_29 dL_tap_30 (Nat.le_of_eq (Nat.zero_add _)) (Nat.le_of_eq (Nat.zero_add _))
    · refine lw_catch C htab [(0, 12, 15, 13), (0, 12, 19, 15), (0, 12, 23, 27), (0, 12, 27, 29)] (0, 12, 31, 17) [] rfl (by decide +kernel) (by decide) rfl h91 h92 h93 ?_
      refine lv_astore hx hb dL_tap_31 hl (by decide) rfl (fun ls2 hl2 => ?_)
      exact lw_num C hr hlk hW9 hS9 (i := 4) rfl hp (v := 5) (by decide) (by decide) dL_tap_33 dL_tap_34 (Nat.le_of_eq (Nat.zero_add _)) (Nat.le_of_eq (Nat.zero_add _))
  intro r Y H1 locs1 hW1 hS1 hp
  refine lv_i2l hx hb dL_tap_10 rfl ?_
  exact lw_tail (g := id) C hr hlk hW1 hS1 hp rfl dL_tap_11 dL_tap_12 (tgt := 35) (by decide) dL_tap_35 dL_tap_36 (Nat.le_of_eq (Nat.zero_add _)) (Nat.le_of_eq (Nat.zero_add _))
set_option maxHeartbeats 1000000 in
theorem hL_pourBack (l : Launch) (G : GT) (X : St) (x y : Int32) {k f n : Nat} {post : Int32 → St → Prop} {postx : String → St → Prop} (hM : MetXI l G k yX7_pourBack (wsG yX7_pourBack cX7_pourBack 3 (some .int)) (rmk k f n) [.ref (ad G 715), .int x, .int y] X post postx) (hmem : ∀ (E : String) (Y : St), postx E Y → E ∈ ["java/lang/IndexOutOfBoundsException", "java/util/NoSuchElementException", "java/lang/UnsupportedOperationException"]) : MetXI l G k yL_pourBack (wsW yL_pourBack cL_pourBack 5 (some .int) [(0, 10, 13, 13), (0, 10, 17, 27), (0, 10, 21, 17)]) (rmk k (f + 1) (n + 22)) [.ref (ad G 715), .int x, .int y, .ref (ad G 735)] X (lpost ["java/lang/IndexOutOfBoundsException", "java/util/NoSuchElementException", "java/lang/UnsupportedOperationException"] id post postx) nox := by
  refine g_metW (cc := cL_pourBack) (maxL := 5) (ret := some .int) (hh := [(0, 10, 13, 13), (0, 10, 17, 27), (0, 10, 21, 17)]) (by decide) rfl (Nat.le_of_ble_eq_true rfl) ?_
  intro p e s m below meth c ls C hr hlk htab hW hl
  have hx := C.1.1
  have hb := C.1.2.1
  have hS : va_S (Ab G) s.heap s.heap [] := va_S.rf
  have hl : lv_has ls 5 [(0, .ref (ad G 715)), (1, .int x), (2, .int y), (3, .ref (ad G 735))] := hl
  refine lv_aload_n hx hb dL_pourBack_0 rfl (lv_at hl 3 rfl) ?_
  refine lv_iconst (v := 0) hx hb dL_pourBack_1 (by decide) ?_
  refine lv_aload_n hx hb dL_pourBack_2 rfl (lv_at hl 0 rfl) ?_
  refine lv_iload_n hx hb dL_pourBack_3 rfl (lv_at hl 1 rfl) ?_
  refine lv_iload_n hx hb dL_pourBack_4 rfl (lv_at hl 2 rfl) ?_
  refine g_cxi (vx_runV (As := [.int x, .int y]) (rest := [.int 0, .ref (ad G 735)]) C.1 hM (cwV 2 C.1.2.2.2.2 (gVW qw_1020 qw_1021 qw_1022 qw_71 qw_1023) rfl rfl rfl (by decide +kernel) ⟨Nat.le_refl _, by show 8 + (3 + 11) + n ≤ n + 22; omega⟩) (g_rFoundry C hW hS [.int x, .int y]) rfl rfl hl.1 rfl (lv_room (Nat.le_of_ble_eq_true rfl)) dL_pourBack_5 ⟨Nat.le_of_eq (Nat.zero_add _), Nat.le_of_eq (Nat.zero_add _)⟩) hS ?_ ?_
  · intro E9 ce9 q9 Y H9 locs9 hW9 hS9 hp h91 h92 h93
    have hE := hmem _ _ hp
    simp only [List.mem_cons, List.not_mem_nil, or_false] at hE
    rcases hE with rfl | rfl | rfl
    · refine lw_catch C htab [] (0, 10, 13, 13) [(0, 10, 17, 27), (0, 10, 21, 17)] rfl (by decide +kernel) (by decide) rfl h91 h92 h93 ?_
      refine lv_astore hx hb dL_pourBack_13 hl (by decide) rfl (fun ls2 hl2 => ?_)
      exact lw_num C hr hlk hW9 hS9 (i := 0) rfl hp (v := 1) (by decide) (by decide) dL_pourBack_15 dL_pourBack_16 (Nat.le_of_eq (Nat.zero_add _)) (Nat.le_of_eq (Nat.zero_add _))
    · refine lw_catch C htab [(0, 10, 13, 13)] (0, 10, 17, 27) [(0, 10, 21, 17)] rfl (by decide +kernel) (by decide) rfl h91 h92 h93 ?_
      refine lv_astore hx hb dL_pourBack_17 hl (by decide) rfl (fun ls2 hl2 => ?_)
      exact lw_num C hr hlk hW9 hS9 (i := 1) rfl hp (v := 2) (by decide) (by decide) dL_pourBack_19 dL_pourBack_20 (Nat.le_of_eq (Nat.zero_add _)) (Nat.le_of_eq (Nat.zero_add _))
    · refine lw_catch C htab [(0, 10, 13, 13), (0, 10, 17, 27)] (0, 10, 21, 17) [] rfl (by decide +kernel) (by decide) rfl h91 h92 h93 ?_
      refine lv_astore hx hb dL_pourBack_21 hl (by decide) rfl (fun ls2 hl2 => ?_)
      exact lw_num C hr hlk hW9 hS9 (i := 2) rfl hp (v := 3) (by decide) (by decide) dL_pourBack_23 dL_pourBack_24 (Nat.le_of_eq (Nat.zero_add _)) (Nat.le_of_eq (Nat.zero_add _))
  intro r Y H1 locs1 hW1 hS1 hp
  refine lv_i2l hx hb dL_pourBack_8 rfl ?_
  exact lw_tail (g := id) C hr hlk hW1 hS1 hp rfl dL_pourBack_9 dL_pourBack_10 (tgt := 25) (by decide) dL_pourBack_25 dL_pourBack_26 (Nat.le_of_eq (Nat.zero_add _)) (Nat.le_of_eq (Nat.zero_add _))
set_option maxHeartbeats 1000000 in
theorem hL_addMould (l : Launch) (G : GT) (X : St) (x : Int32) {k f n : Nat} {post : Int32 → St → Prop} {postx : String → St → Prop} (hM : MetXI l G k yX7_addMould (wsG yX7_addMould cX7_addMould 2 (some .int)) (rmk k f n) [.ref (ad G 715), .int x] X post postx) (hmem : ∀ (E : String) (Y : St), postx E Y → E ∈ ["java/lang/IllegalArgumentException", "java/lang/IllegalStateException"]) : MetXI l G k yL_addMould (wsW yL_addMould cL_addMould 4 (some .int) [(0, 9, 12, 15), (0, 9, 15, 29)]) (rmk k (f + 1) (n + 21)) [.ref (ad G 715), .int x, .ref (ad G 735)] X (lpost ["java/lang/IllegalArgumentException", "java/lang/IllegalStateException"] id post postx) nox := by
  refine g_metW (cc := cL_addMould) (maxL := 4) (ret := some .int) (hh := [(0, 9, 12, 15), (0, 9, 15, 29)]) (by decide) rfl (Nat.le_of_ble_eq_true rfl) ?_
  intro p e s m below meth c ls C hr hlk htab hW hl
  have hx := C.1.1
  have hb := C.1.2.1
  have hS : va_S (Ab G) s.heap s.heap [] := va_S.rf
  have hl : lv_has ls 4 [(0, .ref (ad G 715)), (1, .int x), (2, .ref (ad G 735))] := hl
  refine lv_aload_n hx hb dL_addMould_0 rfl (lv_at hl 2 rfl) ?_
  refine lv_iconst (v := 0) hx hb dL_addMould_1 (by decide) ?_
  refine lv_aload_n hx hb dL_addMould_2 rfl (lv_at hl 0 rfl) ?_
  refine lv_iload_n hx hb dL_addMould_3 rfl (lv_at hl 1 rfl) ?_
  refine g_cxi (vx_runV (As := [.int x]) (rest := [.int 0, .ref (ad G 735)]) C.1 hM (cwV 1 C.1.2.2.2.2 (gVW qw_1029 qw_1030 qw_1031 qw_71 qw_1032) rfl rfl rfl (by decide +kernel) ⟨Nat.le_refl _, by show 8 + (2 + 11) + n ≤ n + 21; omega⟩) (g_rFoundry C hW hS [.int x]) rfl rfl hl.1 rfl (lv_room (Nat.le_of_ble_eq_true rfl)) dL_addMould_4 ⟨Nat.le_of_eq (Nat.zero_add _), Nat.le_of_eq (Nat.zero_add _)⟩) hS ?_ ?_
  · intro E9 ce9 q9 Y H9 locs9 hW9 hS9 hp h91 h92 h93
    have hE := hmem _ _ hp
    simp only [List.mem_cons, List.not_mem_nil, or_false] at hE
    rcases hE with rfl | rfl
    · refine lw_catch C htab [] (0, 9, 12, 15) [(0, 9, 15, 29)] rfl (by decide +kernel) (by decide) rfl h91 h92 h93 ?_
      refine lv_astore_n hx hb dL_addMould_12 rfl hl (by decide) rfl (fun ls2 hl2 => ?_)
      exact lw_num C hr hlk hW9 hS9 (i := 0) rfl hp (v := 1) (by decide) (by decide) dL_addMould_13 dL_addMould_14 (Nat.le_of_eq (Nat.zero_add _)) (Nat.le_of_eq (Nat.zero_add _))
    · refine lw_catch C htab [(0, 9, 12, 15)] (0, 9, 15, 29) [] rfl (by decide +kernel) (by decide) rfl h91 h92 h93 ?_
      refine lv_astore_n hx hb dL_addMould_15 rfl hl (by decide) rfl (fun ls2 hl2 => ?_)
      exact lw_num C hr hlk hW9 hS9 (i := 1) rfl hp (v := 2) (by decide) (by decide) dL_addMould_16 dL_addMould_17 (Nat.le_of_eq (Nat.zero_add _)) (Nat.le_of_eq (Nat.zero_add _))
  intro r Y H1 locs1 hW1 hS1 hp
  refine lv_i2l hx hb dL_addMould_7 rfl ?_
  exact lw_tail (g := id) C hr hlk hW1 hS1 hp rfl dL_addMould_8 dL_addMould_9 (tgt := 18) (by decide) dL_addMould_18 dL_addMould_19 (Nat.le_of_eq (Nat.zero_add _)) (Nat.le_of_eq (Nat.zero_add _))
set_option maxHeartbeats 1000000 in
theorem hL_pour (l : Launch) (G : GT) (X : St) (x y : Int32) {k f n : Nat} {post : Int32 → St → Prop} {postx : String → St → Prop} (hM : MetXI l G k yX7_pour (wsG yX7_pour cX7_pour 3 (some .int)) (rmk k f n) [.ref (ad G 715), .int x, .int y] X post postx) (hmem : ∀ (E : String) (Y : St), postx E Y → E ∈ ["java/lang/IndexOutOfBoundsException", "java/lang/IllegalStateException", "java/util/NoSuchElementException", "java/lang/UnsupportedOperationException"]) : MetXI l G k yL_pour (wsW yL_pour cL_pour 5 (some .int) [(0, 10, 13, 13), (0, 10, 17, 29), (0, 10, 21, 27), (0, 10, 25, 17)]) (rmk k (f + 1) (n + 22)) [.ref (ad G 715), .int x, .int y, .ref (ad G 735)] X (lpost ["java/lang/IndexOutOfBoundsException", "java/lang/IllegalStateException", "java/util/NoSuchElementException", "java/lang/UnsupportedOperationException"] id post postx) nox := by
  refine g_metW (cc := cL_pour) (maxL := 5) (ret := some .int) (hh := [(0, 10, 13, 13), (0, 10, 17, 29), (0, 10, 21, 27), (0, 10, 25, 17)]) (by decide) rfl (Nat.le_of_ble_eq_true rfl) ?_
  intro p e s m below meth c ls C hr hlk htab hW hl
  have hx := C.1.1
  have hb := C.1.2.1
  have hS : va_S (Ab G) s.heap s.heap [] := va_S.rf
  have hl : lv_has ls 5 [(0, .ref (ad G 715)), (1, .int x), (2, .int y), (3, .ref (ad G 735))] := hl
  refine lv_aload_n hx hb dL_pour_0 rfl (lv_at hl 3 rfl) ?_
  refine lv_iconst (v := 0) hx hb dL_pour_1 (by decide) ?_
  refine lv_aload_n hx hb dL_pour_2 rfl (lv_at hl 0 rfl) ?_
  refine lv_iload_n hx hb dL_pour_3 rfl (lv_at hl 1 rfl) ?_
  refine lv_iload_n hx hb dL_pour_4 rfl (lv_at hl 2 rfl) ?_
  refine g_cxi (vx_runV (As := [.int x, .int y]) (rest := [.int 0, .ref (ad G 735)]) C.1 hM (cwV 2 C.1.2.2.2.2 (gVW qw_1038 qw_1039 qw_1040 qw_71 qw_1041) rfl rfl rfl (by decide +kernel) ⟨Nat.le_refl _, by show 8 + (3 + 11) + n ≤ n + 22; omega⟩) (g_rFoundry C hW hS [.int x, .int y]) rfl rfl hl.1 rfl (lv_room (Nat.le_of_ble_eq_true rfl)) dL_pour_5 ⟨Nat.le_of_eq (Nat.zero_add _), Nat.le_of_eq (Nat.zero_add _)⟩) hS ?_ ?_
  · intro E9 ce9 q9 Y H9 locs9 hW9 hS9 hp h91 h92 h93
    have hE := hmem _ _ hp
    simp only [List.mem_cons, List.not_mem_nil, or_false] at hE
    rcases hE with rfl | rfl | rfl | rfl
    · refine lw_catch C htab [] (0, 10, 13, 13) [(0, 10, 17, 29), (0, 10, 21, 27), (0, 10, 25, 17)] rfl (by decide +kernel) (by decide) rfl h91 h92 h93 ?_
      refine lv_astore hx hb dL_pour_13 hl (by decide) rfl (fun ls2 hl2 => ?_)
      exact lw_num C hr hlk hW9 hS9 (i := 0) rfl hp (v := 1) (by decide) (by decide) dL_pour_15 dL_pour_16 (Nat.le_of_eq (Nat.zero_add _)) (Nat.le_of_eq (Nat.zero_add _))
    · refine lw_catch C htab [(0, 10, 13, 13)] (0, 10, 17, 29) [(0, 10, 21, 27), (0, 10, 25, 17)] rfl (by decide +kernel) (by decide) rfl h91 h92 h93 ?_
      refine lv_astore hx hb dL_pour_17 hl (by decide) rfl (fun ls2 hl2 => ?_)
      exact lw_num C hr hlk hW9 hS9 (i := 1) rfl hp (v := 2) (by decide) (by decide) dL_pour_19 dL_pour_20 (Nat.le_of_eq (Nat.zero_add _)) (Nat.le_of_eq (Nat.zero_add _))
    · refine lw_catch C htab [(0, 10, 13, 13), (0, 10, 17, 29)] (0, 10, 21, 27) [(0, 10, 25, 17)] rfl (by decide +kernel) (by decide) rfl h91 h92 h93 ?_
      refine lv_astore hx hb dL_pour_21 hl (by decide) rfl (fun ls2 hl2 => ?_)
      exact lw_num C hr hlk hW9 hS9 (i := 2) rfl hp (v := 3) (by decide) (by decide) dL_pour_23 dL_pour_24 (Nat.le_of_eq (Nat.zero_add _)) (Nat.le_of_eq (Nat.zero_add _))
    · refine lw_catch C htab [(0, 10, 13, 13), (0, 10, 17, 29), (0, 10, 21, 27)] (0, 10, 25, 17) [] rfl (by decide +kernel) (by decide) rfl h91 h92 h93 ?_
      refine lv_astore hx hb dL_pour_25 hl (by decide) rfl (fun ls2 hl2 => ?_)
      exact lw_num C hr hlk hW9 hS9 (i := 3) rfl hp (v := 4) (by decide) (by decide) dL_pour_27 dL_pour_28 (Nat.le_of_eq (Nat.zero_add _)) (Nat.le_of_eq (Nat.zero_add _))
  intro r Y H1 locs1 hW1 hS1 hp
  refine lv_i2l hx hb dL_pour_8 rfl ?_
  exact lw_tail (g := id) C hr hlk hW1 hS1 hp rfl dL_pour_9 dL_pour_10 (tgt := 29) (by decide) dL_pour_29 dL_pour_30 (Nat.le_of_eq (Nat.zero_add _)) (Nat.le_of_eq (Nat.zero_add _))
set_option maxHeartbeats 1000000 in
theorem hL_breakOut (l : Launch) (G : GT) (X : St) (x : Int32) {k f n : Nat} {post : Int32 → St → Prop} {postx : String → St → Prop} (hM : MetXI l G k yX7_breakOut (wsG yX7_breakOut cX7_breakOut 2 (some .int)) (rmk k f n) [.ref (ad G 715), .int x] X post postx) (hmem : ∀ (E : String) (Y : St), postx E Y → E ∈ ["java/lang/IndexOutOfBoundsException", "java/util/NoSuchElementException", "java/lang/IllegalStateException"]) : MetXI l G k yL_breakOut (wsW yL_breakOut cL_breakOut 4 (some .int) [(0, 9, 12, 13), (0, 9, 15, 27), (0, 9, 18, 29)]) (rmk k (f + 1) (n + 21)) [.ref (ad G 715), .int x, .ref (ad G 735)] X (lpost ["java/lang/IndexOutOfBoundsException", "java/util/NoSuchElementException", "java/lang/IllegalStateException"] id post postx) nox := by
  refine g_metW (cc := cL_breakOut) (maxL := 4) (ret := some .int) (hh := [(0, 9, 12, 13), (0, 9, 15, 27), (0, 9, 18, 29)]) (by decide) rfl (Nat.le_of_ble_eq_true rfl) ?_
  intro p e s m below meth c ls C hr hlk htab hW hl
  have hx := C.1.1
  have hb := C.1.2.1
  have hS : va_S (Ab G) s.heap s.heap [] := va_S.rf
  have hl : lv_has ls 4 [(0, .ref (ad G 715)), (1, .int x), (2, .ref (ad G 735))] := hl
  refine lv_aload_n hx hb dL_breakOut_0 rfl (lv_at hl 2 rfl) ?_
  refine lv_iconst (v := 0) hx hb dL_breakOut_1 (by decide) ?_
  refine lv_aload_n hx hb dL_breakOut_2 rfl (lv_at hl 0 rfl) ?_
  refine lv_iload_n hx hb dL_breakOut_3 rfl (lv_at hl 1 rfl) ?_
  refine g_cxi (vx_runV (As := [.int x]) (rest := [.int 0, .ref (ad G 735)]) C.1 hM (cwV 1 C.1.2.2.2.2 (gVW qw_1047 qw_1048 qw_1049 qw_71 qw_1050) rfl rfl rfl (by decide +kernel) ⟨Nat.le_refl _, by show 8 + (2 + 11) + n ≤ n + 21; omega⟩) (g_rFoundry C hW hS [.int x]) rfl rfl hl.1 rfl (lv_room (Nat.le_of_ble_eq_true rfl)) dL_breakOut_4 ⟨Nat.le_of_eq (Nat.zero_add _), Nat.le_of_eq (Nat.zero_add _)⟩) hS ?_ ?_
  · intro E9 ce9 q9 Y H9 locs9 hW9 hS9 hp h91 h92 h93
    have hE := hmem _ _ hp
    simp only [List.mem_cons, List.not_mem_nil, or_false] at hE
    rcases hE with rfl | rfl | rfl
    · refine lw_catch C htab [] (0, 9, 12, 13) [(0, 9, 15, 27), (0, 9, 18, 29)] rfl (by decide +kernel) (by decide) rfl h91 h92 h93 ?_
      refine lv_astore_n hx hb dL_breakOut_12 rfl hl (by decide) rfl (fun ls2 hl2 => ?_)
      exact lw_num C hr hlk hW9 hS9 (i := 0) rfl hp (v := 1) (by decide) (by decide) dL_breakOut_13 dL_breakOut_14 (Nat.le_of_eq (Nat.zero_add _)) (Nat.le_of_eq (Nat.zero_add _))
    · refine lw_catch C htab [(0, 9, 12, 13)] (0, 9, 15, 27) [(0, 9, 18, 29)] rfl (by decide +kernel) (by decide) rfl h91 h92 h93 ?_
      refine lv_astore_n hx hb dL_breakOut_15 rfl hl (by decide) rfl (fun ls2 hl2 => ?_)
      exact lw_num C hr hlk hW9 hS9 (i := 1) rfl hp (v := 2) (by decide) (by decide) dL_breakOut_16 dL_breakOut_17 (Nat.le_of_eq (Nat.zero_add _)) (Nat.le_of_eq (Nat.zero_add _))
    · refine lw_catch C htab [(0, 9, 12, 13), (0, 9, 15, 27)] (0, 9, 18, 29) [] rfl (by decide +kernel) (by decide) rfl h91 h92 h93 ?_
      refine lv_astore_n hx hb dL_breakOut_18 rfl hl (by decide) rfl (fun ls2 hl2 => ?_)
      exact lw_num C hr hlk hW9 hS9 (i := 2) rfl hp (v := 3) (by decide) (by decide) dL_breakOut_19 dL_breakOut_20 (Nat.le_of_eq (Nat.zero_add _)) (Nat.le_of_eq (Nat.zero_add _))
  intro r Y H1 locs1 hW1 hS1 hp
  refine lv_i2l hx hb dL_breakOut_7 rfl ?_
  exact lw_tail (g := id) C hr hlk hW1 hS1 hp rfl dL_breakOut_8 dL_breakOut_9 (tgt := 21) (by decide) dL_breakOut_21 dL_breakOut_22 (Nat.le_of_eq (Nat.zero_add _)) (Nat.le_of_eq (Nat.zero_add _))
set_option maxHeartbeats 1000000 in
theorem hL_meltDown (l : Launch) (G : GT) (X : St) (x y : Int32) {k f n : Nat} {post : Int32 → St → Prop} {postx : String → St → Prop} (hM : MetXI l G k yX7_meltDown (wsG yX7_meltDown cX7_meltDown 3 (some .int)) (rmk k f n) [.ref (ad G 715), .int x, .int y] X post postx) (hmem : ∀ (E : String) (Y : St), postx E Y → E ∈ ["java/lang/IndexOutOfBoundsException", "java/lang/UnsupportedOperationException"]) : MetXI l G k yL_meltDown (wsW yL_meltDown cL_meltDown 5 (some .int) [(0, 10, 13, 13), (0, 10, 17, 17)]) (rmk k (f + 1) (n + 22)) [.ref (ad G 715), .int x, .int y, .ref (ad G 735)] X (lpost ["java/lang/IndexOutOfBoundsException", "java/lang/UnsupportedOperationException"] id post postx) nox := by
  refine g_metW (cc := cL_meltDown) (maxL := 5) (ret := some .int) (hh := [(0, 10, 13, 13), (0, 10, 17, 17)]) (by decide) rfl (Nat.le_of_ble_eq_true rfl) ?_
  intro p e s m below meth c ls C hr hlk htab hW hl
  have hx := C.1.1
  have hb := C.1.2.1
  have hS : va_S (Ab G) s.heap s.heap [] := va_S.rf
  have hl : lv_has ls 5 [(0, .ref (ad G 715)), (1, .int x), (2, .int y), (3, .ref (ad G 735))] := hl
  refine lv_aload_n hx hb dL_meltDown_0 rfl (lv_at hl 3 rfl) ?_
  refine lv_iconst (v := 0) hx hb dL_meltDown_1 (by decide) ?_
  refine lv_aload_n hx hb dL_meltDown_2 rfl (lv_at hl 0 rfl) ?_
  refine lv_iload_n hx hb dL_meltDown_3 rfl (lv_at hl 1 rfl) ?_
  refine lv_iload_n hx hb dL_meltDown_4 rfl (lv_at hl 2 rfl) ?_
  refine g_cxi (vx_runV (As := [.int x, .int y]) (rest := [.int 0, .ref (ad G 735)]) C.1 hM (cwV 2 C.1.2.2.2.2 (gVW qw_1056 qw_1057 qw_1058 qw_71 qw_1059) rfl rfl rfl (by decide +kernel) ⟨Nat.le_refl _, by show 8 + (3 + 11) + n ≤ n + 22; omega⟩) (g_rFoundry C hW hS [.int x, .int y]) rfl rfl hl.1 rfl (lv_room (Nat.le_of_ble_eq_true rfl)) dL_meltDown_5 ⟨Nat.le_of_eq (Nat.zero_add _), Nat.le_of_eq (Nat.zero_add _)⟩) hS ?_ ?_
  · intro E9 ce9 q9 Y H9 locs9 hW9 hS9 hp h91 h92 h93
    have hE := hmem _ _ hp
    simp only [List.mem_cons, List.not_mem_nil, or_false] at hE
    rcases hE with rfl | rfl
    · refine lw_catch C htab [] (0, 10, 13, 13) [(0, 10, 17, 17)] rfl (by decide +kernel) (by decide) rfl h91 h92 h93 ?_
      refine lv_astore hx hb dL_meltDown_13 hl (by decide) rfl (fun ls2 hl2 => ?_)
      exact lw_num C hr hlk hW9 hS9 (i := 0) rfl hp (v := 1) (by decide) (by decide) dL_meltDown_15 dL_meltDown_16 (Nat.le_of_eq (Nat.zero_add _)) (Nat.le_of_eq (Nat.zero_add _))
    · refine lw_catch C htab [(0, 10, 13, 13)] (0, 10, 17, 17) [] rfl (by decide +kernel) (by decide) rfl h91 h92 h93 ?_
      refine lv_astore hx hb dL_meltDown_17 hl (by decide) rfl (fun ls2 hl2 => ?_)
      exact lw_num C hr hlk hW9 hS9 (i := 1) rfl hp (v := 2) (by decide) (by decide) dL_meltDown_19 dL_meltDown_20 (Nat.le_of_eq (Nat.zero_add _)) (Nat.le_of_eq (Nat.zero_add _))
  intro r Y H1 locs1 hW1 hS1 hp
  refine lv_i2l hx hb dL_meltDown_8 rfl ?_
  exact lw_tail (g := id) C hr hlk hW1 hS1 hp rfl dL_meltDown_9 dL_meltDown_10 (tgt := 21) (by decide) dL_meltDown_21 dL_meltDown_22 (Nat.le_of_eq (Nat.zero_add _)) (Nat.le_of_eq (Nat.zero_add _))
set_option maxHeartbeats 1000000 in
theorem hL_advance (l : Launch) (G : GT) (X : St) (x : Int32) {k f n : Nat} {post : Int32 → St → Prop} {postx : String → St → Prop} (hM : MetXI l G k yX7_advance (wsG yX7_advance cX7_advance 2 (some .int)) (rmk k f n) [.ref (ad G 715), .int x] X post postx) (hmem : ∀ (E : String) (Y : St), postx E Y → E ∈ ["java/lang/IllegalArgumentException"]) : MetXI l G k yL_advance (wsW yL_advance cL_advance 4 (some .int) [(0, 9, 12, 15)]) (rmk k (f + 1) (n + 21)) [.ref (ad G 715), .int x, .ref (ad G 735)] X (lpost ["java/lang/IllegalArgumentException"] id post postx) nox := by
  refine g_metW (cc := cL_advance) (maxL := 4) (ret := some .int) (hh := [(0, 9, 12, 15)]) (by decide) rfl (Nat.le_of_ble_eq_true rfl) ?_
  intro p e s m below meth c ls C hr hlk htab hW hl
  have hx := C.1.1
  have hb := C.1.2.1
  have hS : va_S (Ab G) s.heap s.heap [] := va_S.rf
  have hl : lv_has ls 4 [(0, .ref (ad G 715)), (1, .int x), (2, .ref (ad G 735))] := hl
  refine lv_aload_n hx hb dL_advance_0 rfl (lv_at hl 2 rfl) ?_
  refine lv_iconst (v := 0) hx hb dL_advance_1 (by decide) ?_
  refine lv_aload_n hx hb dL_advance_2 rfl (lv_at hl 0 rfl) ?_
  refine lv_iload_n hx hb dL_advance_3 rfl (lv_at hl 1 rfl) ?_
  refine g_cxi (vx_runV (As := [.int x]) (rest := [.int 0, .ref (ad G 735)]) C.1 hM (cwV 1 C.1.2.2.2.2 (gVW qw_1065 qw_1066 qw_1067 qw_71 qw_1068) rfl rfl rfl (by decide +kernel) ⟨Nat.le_refl _, by show 8 + (2 + 11) + n ≤ n + 21; omega⟩) (g_rFoundry C hW hS [.int x]) rfl rfl hl.1 rfl (lv_room (Nat.le_of_ble_eq_true rfl)) dL_advance_4 ⟨Nat.le_of_eq (Nat.zero_add _), Nat.le_of_eq (Nat.zero_add _)⟩) hS ?_ ?_
  · intro E9 ce9 q9 Y H9 locs9 hW9 hS9 hp h91 h92 h93
    have hE := hmem _ _ hp
    simp only [List.mem_cons, List.not_mem_nil, or_false] at hE
    subst hE
    · refine lw_catch C htab [] (0, 9, 12, 15) [] rfl (by decide +kernel) (by decide) rfl h91 h92 h93 ?_
      refine lv_astore_n hx hb dL_advance_12 rfl hl (by decide) rfl (fun ls2 hl2 => ?_)
      exact lw_num C hr hlk hW9 hS9 (i := 0) rfl hp (v := 1) (by decide) (by decide) dL_advance_13 dL_advance_14 (Nat.le_of_eq (Nat.zero_add _)) (Nat.le_of_eq (Nat.zero_add _))
  intro r Y H1 locs1 hW1 hS1 hp
  refine lv_i2l hx hb dL_advance_7 rfl ?_
  exact lw_tail (g := id) C hr hlk hW1 hS1 hp rfl dL_advance_8 dL_advance_9 (tgt := 15) (by decide) dL_advance_15 dL_advance_16 (Nat.le_of_eq (Nat.zero_add _)) (Nat.le_of_eq (Nat.zero_add _))
set_option maxHeartbeats 1000000 in
theorem hL_furnaceMass (l : Launch) (G : GT) (X : St) (x y : Int32) {k f n : Nat} {post : Int32 → St → Prop} {postx : String → St → Prop} (hM : MetXI l G k yX7_furnaceMass (wsG yX7_furnaceMass cX7_furnaceMass 3 (some .int)) (rmk k f n) [.ref (ad G 715), .int x, .int y] X post postx) (hmem : ∀ (E : String) (Y : St), postx E Y → E ∈ ["java/lang/IndexOutOfBoundsException", "java/lang/IllegalArgumentException"]) : MetXI l G k yL_furnaceMass (wsW yL_furnaceMass cL_furnaceMass 5 (some .int) [(0, 10, 13, 13), (0, 10, 17, 15)]) (rmk k (f + 1) (n + 22)) [.ref (ad G 715), .int x, .int y, .ref (ad G 735)] X (lpost ["java/lang/IndexOutOfBoundsException", "java/lang/IllegalArgumentException"] id post postx) nox := by
  refine g_metW (cc := cL_furnaceMass) (maxL := 5) (ret := some .int) (hh := [(0, 10, 13, 13), (0, 10, 17, 15)]) (by decide) rfl (Nat.le_of_ble_eq_true rfl) ?_
  intro p e s m below meth c ls C hr hlk htab hW hl
  have hx := C.1.1
  have hb := C.1.2.1
  have hS : va_S (Ab G) s.heap s.heap [] := va_S.rf
  have hl : lv_has ls 5 [(0, .ref (ad G 715)), (1, .int x), (2, .int y), (3, .ref (ad G 735))] := hl
  refine lv_aload_n hx hb dL_furnaceMass_0 rfl (lv_at hl 3 rfl) ?_
  refine lv_iconst (v := 0) hx hb dL_furnaceMass_1 (by decide) ?_
  refine lv_aload_n hx hb dL_furnaceMass_2 rfl (lv_at hl 0 rfl) ?_
  refine lv_iload_n hx hb dL_furnaceMass_3 rfl (lv_at hl 1 rfl) ?_
  refine lv_iload_n hx hb dL_furnaceMass_4 rfl (lv_at hl 2 rfl) ?_
  refine g_cxi (vx_runV (As := [.int x, .int y]) (rest := [.int 0, .ref (ad G 735)]) C.1 hM (cwV 2 C.1.2.2.2.2 (gVW qw_1074 qw_1075 qw_1076 qw_71 qw_1077) rfl rfl rfl (by decide +kernel) ⟨Nat.le_refl _, by show 8 + (3 + 11) + n ≤ n + 22; omega⟩) (g_rFoundry C hW hS [.int x, .int y]) rfl rfl hl.1 rfl (lv_room (Nat.le_of_ble_eq_true rfl)) dL_furnaceMass_5 ⟨Nat.le_of_eq (Nat.zero_add _), Nat.le_of_eq (Nat.zero_add _)⟩) hS ?_ ?_
  · intro E9 ce9 q9 Y H9 locs9 hW9 hS9 hp h91 h92 h93
    have hE := hmem _ _ hp
    simp only [List.mem_cons, List.not_mem_nil, or_false] at hE
    rcases hE with rfl | rfl
    · refine lw_catch C htab [] (0, 10, 13, 13) [(0, 10, 17, 15)] rfl (by decide +kernel) (by decide) rfl h91 h92 h93 ?_
      refine lv_astore hx hb dL_furnaceMass_13 hl (by decide) rfl (fun ls2 hl2 => ?_)
      exact lw_num C hr hlk hW9 hS9 (i := 0) rfl hp (v := 1) (by decide) (by decide) dL_furnaceMass_15 dL_furnaceMass_16 (Nat.le_of_eq (Nat.zero_add _)) (Nat.le_of_eq (Nat.zero_add _))
    · refine lw_catch C htab [(0, 10, 13, 13)] (0, 10, 17, 15) [] rfl (by decide +kernel) (by decide) rfl h91 h92 h93 ?_
      refine lv_astore hx hb dL_furnaceMass_17 hl (by decide) rfl (fun ls2 hl2 => ?_)
      exact lw_num C hr hlk hW9 hS9 (i := 1) rfl hp (v := 2) (by decide) (by decide) dL_furnaceMass_19 dL_furnaceMass_20 (Nat.le_of_eq (Nat.zero_add _)) (Nat.le_of_eq (Nat.zero_add _))
  intro r Y H1 locs1 hW1 hS1 hp
  refine lv_i2l hx hb dL_furnaceMass_8 rfl ?_
  exact lw_tail (g := id) C hr hlk hW1 hS1 hp rfl dL_furnaceMass_9 dL_furnaceMass_10 (tgt := 21) (by decide) dL_furnaceMass_21 dL_furnaceMass_22 (Nat.le_of_eq (Nat.zero_add _)) (Nat.le_of_eq (Nat.zero_add _))
set_option maxHeartbeats 1000000 in
theorem hL_furnaceTotal (l : Launch) (G : GT) (X : St) (x : Int32) {k f n : Nat} {post : Int32 → St → Prop} {postx : String → St → Prop} (hM : MetXI l G k yX7_furnaceTotal (wsG yX7_furnaceTotal cX7_furnaceTotal 2 (some .int)) (rmk k f n) [.ref (ad G 715), .int x] X post postx) (hmem : ∀ (E : String) (Y : St), postx E Y → E ∈ ["java/lang/IndexOutOfBoundsException"]) : MetXI l G k yL_furnaceTotal (wsW yL_furnaceTotal cL_furnaceTotal 4 (some .int) [(0, 9, 12, 13)]) (rmk k (f + 1) (n + 21)) [.ref (ad G 715), .int x, .ref (ad G 735)] X (lpost ["java/lang/IndexOutOfBoundsException"] id post postx) nox := by
  refine g_metW (cc := cL_furnaceTotal) (maxL := 4) (ret := some .int) (hh := [(0, 9, 12, 13)]) (by decide) rfl (Nat.le_of_ble_eq_true rfl) ?_
  intro p e s m below meth c ls C hr hlk htab hW hl
  have hx := C.1.1
  have hb := C.1.2.1
  have hS : va_S (Ab G) s.heap s.heap [] := va_S.rf
  have hl : lv_has ls 4 [(0, .ref (ad G 715)), (1, .int x), (2, .ref (ad G 735))] := hl
  refine lv_aload_n hx hb dL_furnaceTotal_0 rfl (lv_at hl 2 rfl) ?_
  refine lv_iconst (v := 0) hx hb dL_furnaceTotal_1 (by decide) ?_
  refine lv_aload_n hx hb dL_furnaceTotal_2 rfl (lv_at hl 0 rfl) ?_
  refine lv_iload_n hx hb dL_furnaceTotal_3 rfl (lv_at hl 1 rfl) ?_
  refine g_cxi (vx_runV (As := [.int x]) (rest := [.int 0, .ref (ad G 735)]) C.1 hM (cwV 1 C.1.2.2.2.2 (gVW qw_1089 qw_1090 qw_1091 qw_71 qw_1092) rfl rfl rfl (by decide +kernel) ⟨Nat.le_refl _, by show 8 + (2 + 11) + n ≤ n + 21; omega⟩) (g_rFoundry C hW hS [.int x]) rfl rfl hl.1 rfl (lv_room (Nat.le_of_ble_eq_true rfl)) dL_furnaceTotal_4 ⟨Nat.le_of_eq (Nat.zero_add _), Nat.le_of_eq (Nat.zero_add _)⟩) hS ?_ ?_
  · intro E9 ce9 q9 Y H9 locs9 hW9 hS9 hp h91 h92 h93
    have hE := hmem _ _ hp
    simp only [List.mem_cons, List.not_mem_nil, or_false] at hE
    subst hE
    · refine lw_catch C htab [] (0, 9, 12, 13) [] rfl (by decide +kernel) (by decide) rfl h91 h92 h93 ?_
      refine lv_astore_n hx hb dL_furnaceTotal_12 rfl hl (by decide) rfl (fun ls2 hl2 => ?_)
      exact lw_num C hr hlk hW9 hS9 (i := 0) rfl hp (v := 1) (by decide) (by decide) dL_furnaceTotal_13 dL_furnaceTotal_14 (Nat.le_of_eq (Nat.zero_add _)) (Nat.le_of_eq (Nat.zero_add _))
  intro r Y H1 locs1 hW1 hS1 hp
  refine lv_i2l hx hb dL_furnaceTotal_7 rfl ?_
  exact lw_tail (g := id) C hr hlk hW1 hS1 hp rfl dL_furnaceTotal_8 dL_furnaceTotal_9 (tgt := 15) (by decide) dL_furnaceTotal_15 dL_furnaceTotal_16 (Nat.le_of_eq (Nat.zero_add _)) (Nat.le_of_eq (Nat.zero_add _))
set_option maxHeartbeats 1000000 in
theorem hL_furnaceTemperature (l : Launch) (G : GT) (X : St) (x : Int32) {k f n : Nat} {post : Int32 → St → Prop} {postx : String → St → Prop} (hM : MetXI l G k yX7_furnaceTemperature (wsG yX7_furnaceTemperature cX7_furnaceTemperature 2 (some .int)) (rmk k f n) [.ref (ad G 715), .int x] X post postx) (hmem : ∀ (E : String) (Y : St), postx E Y → E ∈ ["java/lang/IndexOutOfBoundsException"]) : MetXI l G k yL_furnaceTemperature (wsW yL_furnaceTemperature cL_furnaceTemperature 4 (some .int) [(0, 9, 12, 13)]) (rmk k (f + 1) (n + 21)) [.ref (ad G 715), .int x, .ref (ad G 735)] X (lpost ["java/lang/IndexOutOfBoundsException"] id post postx) nox := by
  refine g_metW (cc := cL_furnaceTemperature) (maxL := 4) (ret := some .int) (hh := [(0, 9, 12, 13)]) (by decide) rfl (Nat.le_of_ble_eq_true rfl) ?_
  intro p e s m below meth c ls C hr hlk htab hW hl
  have hx := C.1.1
  have hb := C.1.2.1
  have hS : va_S (Ab G) s.heap s.heap [] := va_S.rf
  have hl : lv_has ls 4 [(0, .ref (ad G 715)), (1, .int x), (2, .ref (ad G 735))] := hl
  refine lv_aload_n hx hb dL_furnaceTemperature_0 rfl (lv_at hl 2 rfl) ?_
  refine lv_iconst (v := 0) hx hb dL_furnaceTemperature_1 (by decide) ?_
  refine lv_aload_n hx hb dL_furnaceTemperature_2 rfl (lv_at hl 0 rfl) ?_
  refine lv_iload_n hx hb dL_furnaceTemperature_3 rfl (lv_at hl 1 rfl) ?_
  refine g_cxi (vx_runV (As := [.int x]) (rest := [.int 0, .ref (ad G 735)]) C.1 hM (cwV 1 C.1.2.2.2.2 (gVW qw_1097 qw_1098 qw_1099 qw_71 qw_1100) rfl rfl rfl (by decide +kernel) ⟨Nat.le_refl _, by show 8 + (2 + 11) + n ≤ n + 21; omega⟩) (g_rFoundry C hW hS [.int x]) rfl rfl hl.1 rfl (lv_room (Nat.le_of_ble_eq_true rfl)) dL_furnaceTemperature_4 ⟨Nat.le_of_eq (Nat.zero_add _), Nat.le_of_eq (Nat.zero_add _)⟩) hS ?_ ?_
  · intro E9 ce9 q9 Y H9 locs9 hW9 hS9 hp h91 h92 h93
    have hE := hmem _ _ hp
    simp only [List.mem_cons, List.not_mem_nil, or_false] at hE
    subst hE
    · refine lw_catch C htab [] (0, 9, 12, 13) [] rfl (by decide +kernel) (by decide) rfl h91 h92 h93 ?_
      refine lv_astore_n hx hb dL_furnaceTemperature_12 rfl hl (by decide) rfl (fun ls2 hl2 => ?_)
      exact lw_num C hr hlk hW9 hS9 (i := 0) rfl hp (v := 1) (by decide) (by decide) dL_furnaceTemperature_13 dL_furnaceTemperature_14 (Nat.le_of_eq (Nat.zero_add _)) (Nat.le_of_eq (Nat.zero_add _))
  intro r Y H1 locs1 hW1 hS1 hp
  refine lv_i2l hx hb dL_furnaceTemperature_7 rfl ?_
  exact lw_tail (g := id) C hr hlk hW1 hS1 hp rfl dL_furnaceTemperature_8 dL_furnaceTemperature_9 (tgt := 15) (by decide) dL_furnaceTemperature_15 dL_furnaceTemperature_16 (Nat.le_of_eq (Nat.zero_add _)) (Nat.le_of_eq (Nat.zero_add _))
set_option maxHeartbeats 1000000 in
theorem hL_fire (l : Launch) (G : GT) (X : St) (x : Int32) {k f n : Nat} {post : Int32 → St → Prop} {postx : String → St → Prop} (hM : MetXI l G k yX7_fire (wsG yX7_fire cX7_fire 2 (some .int)) (rmk k f n) [.ref (ad G 715), .int x] X post postx) (hmem : ∀ (E : String) (Y : St), postx E Y → E ∈ ["java/lang/IndexOutOfBoundsException"]) : MetXI l G k yL_fire (wsW yL_fire cL_fire 4 (some .int) [(0, 9, 12, 13)]) (rmk k (f + 1) (n + 21)) [.ref (ad G 715), .int x, .ref (ad G 735)] X (lpost ["java/lang/IndexOutOfBoundsException"] id post postx) nox := by
  refine g_metW (cc := cL_fire) (maxL := 4) (ret := some .int) (hh := [(0, 9, 12, 13)]) (by decide) rfl (Nat.le_of_ble_eq_true rfl) ?_
  intro p e s m below meth c ls C hr hlk htab hW hl
  have hx := C.1.1
  have hb := C.1.2.1
  have hS : va_S (Ab G) s.heap s.heap [] := va_S.rf
  have hl : lv_has ls 4 [(0, .ref (ad G 715)), (1, .int x), (2, .ref (ad G 735))] := hl
  refine lv_aload_n hx hb dL_fire_0 rfl (lv_at hl 2 rfl) ?_
  refine lv_iconst (v := 0) hx hb dL_fire_1 (by decide) ?_
  refine lv_aload_n hx hb dL_fire_2 rfl (lv_at hl 0 rfl) ?_
  refine lv_iload_n hx hb dL_fire_3 rfl (lv_at hl 1 rfl) ?_
  refine g_cxi (vx_runV (As := [.int x]) (rest := [.int 0, .ref (ad G 735)]) C.1 hM (cwV 1 C.1.2.2.2.2 (gVW qw_1104 qw_1105 qw_1106 qw_71 qw_1107) rfl rfl rfl (by decide +kernel) ⟨Nat.le_refl _, by show 8 + (2 + 11) + n ≤ n + 21; omega⟩) (g_rFoundry C hW hS [.int x]) rfl rfl hl.1 rfl (lv_room (Nat.le_of_ble_eq_true rfl)) dL_fire_4 ⟨Nat.le_of_eq (Nat.zero_add _), Nat.le_of_eq (Nat.zero_add _)⟩) hS ?_ ?_
  · intro E9 ce9 q9 Y H9 locs9 hW9 hS9 hp h91 h92 h93
    have hE := hmem _ _ hp
    simp only [List.mem_cons, List.not_mem_nil, or_false] at hE
    subst hE
    · refine lw_catch C htab [] (0, 9, 12, 13) [] rfl (by decide +kernel) (by decide) rfl h91 h92 h93 ?_
      refine lv_astore_n hx hb dL_fire_12 rfl hl (by decide) rfl (fun ls2 hl2 => ?_)
      exact lw_num C hr hlk hW9 hS9 (i := 0) rfl hp (v := 1) (by decide) (by decide) dL_fire_13 dL_fire_14 (Nat.le_of_eq (Nat.zero_add _)) (Nat.le_of_eq (Nat.zero_add _))
  intro r Y H1 locs1 hW1 hS1 hp
  refine lv_i2l hx hb dL_fire_7 rfl ?_
  exact lw_tail (g := id) C hr hlk hW1 hS1 hp rfl dL_fire_8 dL_fire_9 (tgt := 15) (by decide) dL_fire_15 dL_fire_16 (Nat.le_of_eq (Nat.zero_add _)) (Nat.le_of_eq (Nat.zero_add _))
set_option maxHeartbeats 1000000 in
theorem hL_meltingPoint (l : Launch) (G : GT) (X : St) (x : Int32) {k f n : Nat} {post : Int32 → St → Prop} {postx : String → St → Prop} (hM : MetXI l G k yX7_meltingPoint (wsG yX7_meltingPoint cX7_meltingPoint 2 (some .int)) (rmk k f n) [.ref (ad G 715), .int x] X post postx) (hmem : ∀ (E : String) (Y : St), postx E Y → E ∈ ["java/lang/IndexOutOfBoundsException", "java/util/NoSuchElementException"]) : MetXI l G k yL_meltingPoint (wsW yL_meltingPoint cL_meltingPoint 4 (some .int) [(0, 9, 12, 13), (0, 9, 15, 27)]) (rmk k (f + 1) (n + 21)) [.ref (ad G 715), .int x, .ref (ad G 735)] X (lpost ["java/lang/IndexOutOfBoundsException", "java/util/NoSuchElementException"] id post postx) nox := by
  refine g_metW (cc := cL_meltingPoint) (maxL := 4) (ret := some .int) (hh := [(0, 9, 12, 13), (0, 9, 15, 27)]) (by decide) rfl (Nat.le_of_ble_eq_true rfl) ?_
  intro p e s m below meth c ls C hr hlk htab hW hl
  have hx := C.1.1
  have hb := C.1.2.1
  have hS : va_S (Ab G) s.heap s.heap [] := va_S.rf
  have hl : lv_has ls 4 [(0, .ref (ad G 715)), (1, .int x), (2, .ref (ad G 735))] := hl
  refine lv_aload_n hx hb dL_meltingPoint_0 rfl (lv_at hl 2 rfl) ?_
  refine lv_iconst (v := 0) hx hb dL_meltingPoint_1 (by decide) ?_
  refine lv_aload_n hx hb dL_meltingPoint_2 rfl (lv_at hl 0 rfl) ?_
  refine lv_iload_n hx hb dL_meltingPoint_3 rfl (lv_at hl 1 rfl) ?_
  refine g_cxi (vx_runV (As := [.int x]) (rest := [.int 0, .ref (ad G 735)]) C.1 hM (cwV 1 C.1.2.2.2.2 (gVW qw_1111 qw_1112 qw_1113 qw_71 qw_1114) rfl rfl rfl (by decide +kernel) ⟨Nat.le_refl _, by show 8 + (2 + 11) + n ≤ n + 21; omega⟩) (g_rFoundry C hW hS [.int x]) rfl rfl hl.1 rfl (lv_room (Nat.le_of_ble_eq_true rfl)) dL_meltingPoint_4 ⟨Nat.le_of_eq (Nat.zero_add _), Nat.le_of_eq (Nat.zero_add _)⟩) hS ?_ ?_
  · intro E9 ce9 q9 Y H9 locs9 hW9 hS9 hp h91 h92 h93
    have hE := hmem _ _ hp
    simp only [List.mem_cons, List.not_mem_nil, or_false] at hE
    rcases hE with rfl | rfl
    · refine lw_catch C htab [] (0, 9, 12, 13) [(0, 9, 15, 27)] rfl (by decide +kernel) (by decide) rfl h91 h92 h93 ?_
      refine lv_astore_n hx hb dL_meltingPoint_12 rfl hl (by decide) rfl (fun ls2 hl2 => ?_)
      exact lw_num C hr hlk hW9 hS9 (i := 0) rfl hp (v := 1) (by decide) (by decide) dL_meltingPoint_13 dL_meltingPoint_14 (Nat.le_of_eq (Nat.zero_add _)) (Nat.le_of_eq (Nat.zero_add _))
    · refine lw_catch C htab [(0, 9, 12, 13)] (0, 9, 15, 27) [] rfl (by decide +kernel) (by decide) rfl h91 h92 h93 ?_
      refine lv_astore_n hx hb dL_meltingPoint_15 rfl hl (by decide) rfl (fun ls2 hl2 => ?_)
      exact lw_num C hr hlk hW9 hS9 (i := 1) rfl hp (v := 2) (by decide) (by decide) dL_meltingPoint_16 dL_meltingPoint_17 (Nat.le_of_eq (Nat.zero_add _)) (Nat.le_of_eq (Nat.zero_add _))
  intro r Y H1 locs1 hW1 hS1 hp
  refine lv_i2l hx hb dL_meltingPoint_7 rfl ?_
  exact lw_tail (g := id) C hr hlk hW1 hS1 hp rfl dL_meltingPoint_8 dL_meltingPoint_9 (tgt := 18) (by decide) dL_meltingPoint_18 dL_meltingPoint_19 (Nat.le_of_eq (Nat.zero_add _)) (Nat.le_of_eq (Nat.zero_add _))
set_option maxHeartbeats 1000000 in
theorem hL_meltingPointByDifferences (l : Launch) (G : GT) (X : St) (x : Int32) {k f n : Nat} {post : Int32 → St → Prop} {postx : String → St → Prop} (hM : MetXI l G k yX7_meltingPointByDifferences (wsG yX7_meltingPointByDifferences cX7_meltingPointByDifferences 2 (some .int)) (rmk k f n) [.ref (ad G 715), .int x] X post postx) (hmem : ∀ (E : String) (Y : St), postx E Y → E ∈ ["java/lang/IndexOutOfBoundsException", "java/util/NoSuchElementException"]) : MetXI l G k yL_meltingPointByDifferences (wsW yL_meltingPointByDifferences cL_meltingPointByDifferences 4 (some .int) [(0, 9, 12, 13), (0, 9, 15, 27)]) (rmk k (f + 1) (n + 21)) [.ref (ad G 715), .int x, .ref (ad G 735)] X (lpost ["java/lang/IndexOutOfBoundsException", "java/util/NoSuchElementException"] id post postx) nox := by
  refine g_metW (cc := cL_meltingPointByDifferences) (maxL := 4) (ret := some .int) (hh := [(0, 9, 12, 13), (0, 9, 15, 27)]) (by decide) rfl (Nat.le_of_ble_eq_true rfl) ?_
  intro p e s m below meth c ls C hr hlk htab hW hl
  have hx := C.1.1
  have hb := C.1.2.1
  have hS : va_S (Ab G) s.heap s.heap [] := va_S.rf
  have hl : lv_has ls 4 [(0, .ref (ad G 715)), (1, .int x), (2, .ref (ad G 735))] := hl
  refine lv_aload_n hx hb dL_meltingPointByDifferences_0 rfl (lv_at hl 2 rfl) ?_
  refine lv_iconst (v := 0) hx hb dL_meltingPointByDifferences_1 (by decide) ?_
  refine lv_aload_n hx hb dL_meltingPointByDifferences_2 rfl (lv_at hl 0 rfl) ?_
  refine lv_iload_n hx hb dL_meltingPointByDifferences_3 rfl (lv_at hl 1 rfl) ?_
  refine g_cxi (vx_runV (As := [.int x]) (rest := [.int 0, .ref (ad G 735)]) C.1 hM (cwV 1 C.1.2.2.2.2 (gVW qw_1123 qw_1124 qw_1125 qw_71 qw_1126) rfl rfl rfl (by decide +kernel) ⟨Nat.le_refl _, by show 8 + (2 + 11) + n ≤ n + 21; omega⟩) (g_rFoundry C hW hS [.int x]) rfl rfl hl.1 rfl (lv_room (Nat.le_of_ble_eq_true rfl)) dL_meltingPointByDifferences_4 ⟨Nat.le_of_eq (Nat.zero_add _), Nat.le_of_eq (Nat.zero_add _)⟩) hS ?_ ?_
  · intro E9 ce9 q9 Y H9 locs9 hW9 hS9 hp h91 h92 h93
    have hE := hmem _ _ hp
    simp only [List.mem_cons, List.not_mem_nil, or_false] at hE
    rcases hE with rfl | rfl
    · refine lw_catch C htab [] (0, 9, 12, 13) [(0, 9, 15, 27)] rfl (by decide +kernel) (by decide) rfl h91 h92 h93 ?_
      refine lv_astore_n hx hb dL_meltingPointByDifferences_12 rfl hl (by decide) rfl (fun ls2 hl2 => ?_)
      exact lw_num C hr hlk hW9 hS9 (i := 0) rfl hp (v := 1) (by decide) (by decide) dL_meltingPointByDifferences_13 dL_meltingPointByDifferences_14 (Nat.le_of_eq (Nat.zero_add _)) (Nat.le_of_eq (Nat.zero_add _))
    · refine lw_catch C htab [(0, 9, 12, 13)] (0, 9, 15, 27) [] rfl (by decide +kernel) (by decide) rfl h91 h92 h93 ?_
      refine lv_astore_n hx hb dL_meltingPointByDifferences_15 rfl hl (by decide) rfl (fun ls2 hl2 => ?_)
      exact lw_num C hr hlk hW9 hS9 (i := 1) rfl hp (v := 2) (by decide) (by decide) dL_meltingPointByDifferences_16 dL_meltingPointByDifferences_17 (Nat.le_of_eq (Nat.zero_add _)) (Nat.le_of_eq (Nat.zero_add _))
  intro r Y H1 locs1 hW1 hS1 hp
  refine lv_i2l hx hb dL_meltingPointByDifferences_7 rfl ?_
  exact lw_tail (g := id) C hr hlk hW1 hS1 hp rfl dL_meltingPointByDifferences_8 dL_meltingPointByDifferences_9 (tgt := 18) (by decide) dL_meltingPointByDifferences_18 dL_meltingPointByDifferences_19 (Nat.le_of_eq (Nat.zero_add _)) (Nat.le_of_eq (Nat.zero_add _))
set_option maxHeartbeats 1000000 in
theorem hL_isMolten (l : Launch) (G : GT) (X : St) (x : Int32) {k f n : Nat} {post : Int32 → St → Prop} {postx : String → St → Prop} (hM : MetXI l G k yX7_isMolten (wsG yX7_isMolten cX7_isMolten 2 (some .boolean)) (rmk k f n) [.ref (ad G 715), .int x] X post postx) (hmem : ∀ (E : String) (Y : St), postx E Y → E ∈ ["java/lang/IndexOutOfBoundsException"]) : MetXI l G k yL_isMolten (wsW yL_isMolten cL_isMolten 4 (some .int) [(0, 16, 19, 13)]) (rmk k (f + 1) (n + 21)) [.ref (ad G 715), .int x, .ref (ad G 735)] X (lpost ["java/lang/IndexOutOfBoundsException"] (fun r => if r = 0 then 0 else 1) post postx) nox := by
  refine g_metW (cc := cL_isMolten) (maxL := 4) (ret := some .int) (hh := [(0, 16, 19, 13)]) (by decide) rfl (Nat.le_of_ble_eq_true rfl) ?_
  intro p e s m below meth c ls C hr hlk htab hW hl
  have hx := C.1.1
  have hb := C.1.2.1
  have hS : va_S (Ab G) s.heap s.heap [] := va_S.rf
  have hl : lv_has ls 4 [(0, .ref (ad G 715)), (1, .int x), (2, .ref (ad G 735))] := hl
  refine lv_aload_n hx hb dL_isMolten_0 rfl (lv_at hl 2 rfl) ?_
  refine lv_iconst (v := 0) hx hb dL_isMolten_1 (by decide) ?_
  refine lv_aload_n hx hb dL_isMolten_2 rfl (lv_at hl 0 rfl) ?_
  refine lv_iload_n hx hb dL_isMolten_3 rfl (lv_at hl 1 rfl) ?_
  refine g_cxi (vx_runV (As := [.int x]) (rest := [.int 0, .ref (ad G 735)]) C.1 hM (cwV 1 C.1.2.2.2.2 (gVW qw_1131 qw_1132 qw_1133 qw_71 qw_1134) rfl rfl rfl (by decide +kernel) ⟨Nat.le_refl _, by show 8 + (2 + 11) + n ≤ n + 21; omega⟩) (g_rFoundry C hW hS [.int x]) rfl rfl hl.1 rfl (lv_room (Nat.le_of_ble_eq_true rfl)) dL_isMolten_4 ⟨Nat.le_of_eq (Nat.zero_add _), Nat.le_of_eq (Nat.zero_add _)⟩) hS ?_ ?_
  · intro E9 ce9 q9 Y H9 locs9 hW9 hS9 hp h91 h92 h93
    have hE := hmem _ _ hp
    simp only [List.mem_cons, List.not_mem_nil, or_false] at hE
    subst hE
    · refine lw_catch C htab [] (0, 16, 19, 13) [] rfl (by decide +kernel) (by decide) rfl h91 h92 h93 ?_
      refine lv_astore_n hx hb dL_isMolten_19 rfl hl (by decide) rfl (fun ls2 hl2 => ?_)
      exact lw_num C hr hlk hW9 hS9 (i := 0) rfl hp (v := 1) (by decide) (by decide) dL_isMolten_20 dL_isMolten_21 (Nat.le_of_eq (Nat.zero_add _)) (Nat.le_of_eq (Nat.zero_add _))
  intro r Y H1 locs1 hW1 hS1 hp
  refine lv_if_eq (tgt := 14) hx hb dL_isMolten_7 (by decide) (fun hr0 => ?_) (fun hr0 => ?_)
  · refine lv_lconst (v := (0 : Int32).toInt64) hx hb dL_isMolten_14 (by decide) ?_
    exact lw_tail C hr hlk hW1 hS1 hp (if_pos hr0) dL_isMolten_15 dL_isMolten_16 (tgt := 22) (by decide) dL_isMolten_22 dL_isMolten_23 (Nat.le_of_eq (Nat.zero_add _)) (Nat.le_of_eq (Nat.zero_add _))
  · refine lv_lconst (v := (1 : Int32).toInt64) hx hb dL_isMolten_10 (by decide) ?_
    refine lv_goto hx hb dL_isMolten_11 (tgt := 15) (by decide) ?_
    exact lw_tail C hr hlk hW1 hS1 hp (if_neg hr0) dL_isMolten_15 dL_isMolten_16 (tgt := 22) (by decide) dL_isMolten_22 dL_isMolten_23 (Nat.le_of_eq (Nat.zero_add _)) (Nat.le_of_eq (Nat.zero_add _))
set_option maxHeartbeats 1000000 in
theorem hL_minutesUntilMolten (l : Launch) (G : GT) (X : St) (x : Int32) {k f n : Nat} {post : Int32 → St → Prop} {postx : String → St → Prop} (hM : MetXI l G k yX7_minutesUntilMolten (wsG yX7_minutesUntilMolten cX7_minutesUntilMolten 2 (some .int)) (rmk k f n) [.ref (ad G 715), .int x] X post postx) (hmem : ∀ (E : String) (Y : St), postx E Y → E ∈ ["java/lang/IndexOutOfBoundsException", "java/util/NoSuchElementException"]) : MetXI l G k yL_minutesUntilMolten (wsW yL_minutesUntilMolten cL_minutesUntilMolten 4 (some .int) [(0, 9, 12, 13), (0, 9, 15, 27)]) (rmk k (f + 1) (n + 21)) [.ref (ad G 715), .int x, .ref (ad G 735)] X (lpost ["java/lang/IndexOutOfBoundsException", "java/util/NoSuchElementException"] id post postx) nox := by
  refine g_metW (cc := cL_minutesUntilMolten) (maxL := 4) (ret := some .int) (hh := [(0, 9, 12, 13), (0, 9, 15, 27)]) (by decide) rfl (Nat.le_of_ble_eq_true rfl) ?_
  intro p e s m below meth c ls C hr hlk htab hW hl
  have hx := C.1.1
  have hb := C.1.2.1
  have hS : va_S (Ab G) s.heap s.heap [] := va_S.rf
  have hl : lv_has ls 4 [(0, .ref (ad G 715)), (1, .int x), (2, .ref (ad G 735))] := hl
  refine lv_aload_n hx hb dL_minutesUntilMolten_0 rfl (lv_at hl 2 rfl) ?_
  refine lv_iconst (v := 0) hx hb dL_minutesUntilMolten_1 (by decide) ?_
  refine lv_aload_n hx hb dL_minutesUntilMolten_2 rfl (lv_at hl 0 rfl) ?_
  refine lv_iload_n hx hb dL_minutesUntilMolten_3 rfl (lv_at hl 1 rfl) ?_
  refine g_cxi (vx_runV (As := [.int x]) (rest := [.int 0, .ref (ad G 735)]) C.1 hM (cwV 1 C.1.2.2.2.2 (gVW qw_1139 qw_1140 qw_1141 qw_71 qw_1142) rfl rfl rfl (by decide +kernel) ⟨Nat.le_refl _, by show 8 + (2 + 11) + n ≤ n + 21; omega⟩) (g_rFoundry C hW hS [.int x]) rfl rfl hl.1 rfl (lv_room (Nat.le_of_ble_eq_true rfl)) dL_minutesUntilMolten_4 ⟨Nat.le_of_eq (Nat.zero_add _), Nat.le_of_eq (Nat.zero_add _)⟩) hS ?_ ?_
  · intro E9 ce9 q9 Y H9 locs9 hW9 hS9 hp h91 h92 h93
    have hE := hmem _ _ hp
    simp only [List.mem_cons, List.not_mem_nil, or_false] at hE
    rcases hE with rfl | rfl
    · refine lw_catch C htab [] (0, 9, 12, 13) [(0, 9, 15, 27)] rfl (by decide +kernel) (by decide) rfl h91 h92 h93 ?_
      refine lv_astore_n hx hb dL_minutesUntilMolten_12 rfl hl (by decide) rfl (fun ls2 hl2 => ?_)
      exact lw_num C hr hlk hW9 hS9 (i := 0) rfl hp (v := 1) (by decide) (by decide) dL_minutesUntilMolten_13 dL_minutesUntilMolten_14 (Nat.le_of_eq (Nat.zero_add _)) (Nat.le_of_eq (Nat.zero_add _))
    · refine lw_catch C htab [(0, 9, 12, 13)] (0, 9, 15, 27) [] rfl (by decide +kernel) (by decide) rfl h91 h92 h93 ?_
      refine lv_astore_n hx hb dL_minutesUntilMolten_15 rfl hl (by decide) rfl (fun ls2 hl2 => ?_)
      exact lw_num C hr hlk hW9 hS9 (i := 1) rfl hp (v := 2) (by decide) (by decide) dL_minutesUntilMolten_16 dL_minutesUntilMolten_17 (Nat.le_of_eq (Nat.zero_add _)) (Nat.le_of_eq (Nat.zero_add _))
  intro r Y H1 locs1 hW1 hS1 hp
  refine lv_i2l hx hb dL_minutesUntilMolten_7 rfl ?_
  exact lw_tail (g := id) C hr hlk hW1 hS1 hp rfl dL_minutesUntilMolten_8 dL_minutesUntilMolten_9 (tgt := 18) (by decide) dL_minutesUntilMolten_18 dL_minutesUntilMolten_19 (Nat.le_of_eq (Nat.zero_add _)) (Nat.le_of_eq (Nat.zero_add _))
set_option maxHeartbeats 1000000 in
theorem hL_minutesUntilMoltenByDivision (l : Launch) (G : GT) (X : St) (x : Int32) {k f n : Nat} {post : Int32 → St → Prop} {postx : String → St → Prop} (hM : MetXI l G k yX7_minutesUntilMoltenByDivision (wsG yX7_minutesUntilMoltenByDivision cX7_minutesUntilMoltenByDivision 2 (some .int)) (rmk k f n) [.ref (ad G 715), .int x] X post postx) (hmem : ∀ (E : String) (Y : St), postx E Y → E ∈ ["java/lang/IndexOutOfBoundsException", "java/util/NoSuchElementException"]) : MetXI l G k yL_minutesUntilMoltenByDivision (wsW yL_minutesUntilMoltenByDivision cL_minutesUntilMoltenByDivision 4 (some .int) [(0, 9, 12, 13), (0, 9, 15, 27)]) (rmk k (f + 1) (n + 21)) [.ref (ad G 715), .int x, .ref (ad G 735)] X (lpost ["java/lang/IndexOutOfBoundsException", "java/util/NoSuchElementException"] id post postx) nox := by
  refine g_metW (cc := cL_minutesUntilMoltenByDivision) (maxL := 4) (ret := some .int) (hh := [(0, 9, 12, 13), (0, 9, 15, 27)]) (by decide) rfl (Nat.le_of_ble_eq_true rfl) ?_
  intro p e s m below meth c ls C hr hlk htab hW hl
  have hx := C.1.1
  have hb := C.1.2.1
  have hS : va_S (Ab G) s.heap s.heap [] := va_S.rf
  have hl : lv_has ls 4 [(0, .ref (ad G 715)), (1, .int x), (2, .ref (ad G 735))] := hl
  refine lv_aload_n hx hb dL_minutesUntilMoltenByDivision_0 rfl (lv_at hl 2 rfl) ?_
  refine lv_iconst (v := 0) hx hb dL_minutesUntilMoltenByDivision_1 (by decide) ?_
  refine lv_aload_n hx hb dL_minutesUntilMoltenByDivision_2 rfl (lv_at hl 0 rfl) ?_
  refine lv_iload_n hx hb dL_minutesUntilMoltenByDivision_3 rfl (lv_at hl 1 rfl) ?_
  refine g_cxi (vx_runV (As := [.int x]) (rest := [.int 0, .ref (ad G 735)]) C.1 hM (cwV 1 C.1.2.2.2.2 (gVW qw_1152 qw_1153 qw_1154 qw_71 qw_1155) rfl rfl rfl (by decide +kernel) ⟨Nat.le_refl _, by show 8 + (2 + 11) + n ≤ n + 21; omega⟩) (g_rFoundry C hW hS [.int x]) rfl rfl hl.1 rfl (lv_room (Nat.le_of_ble_eq_true rfl)) dL_minutesUntilMoltenByDivision_4 ⟨Nat.le_of_eq (Nat.zero_add _), Nat.le_of_eq (Nat.zero_add _)⟩) hS ?_ ?_
  · intro E9 ce9 q9 Y H9 locs9 hW9 hS9 hp h91 h92 h93
    have hE := hmem _ _ hp
    simp only [List.mem_cons, List.not_mem_nil, or_false] at hE
    rcases hE with rfl | rfl
    · refine lw_catch C htab [] (0, 9, 12, 13) [(0, 9, 15, 27)] rfl (by decide +kernel) (by decide) rfl h91 h92 h93 ?_
      refine lv_astore_n hx hb dL_minutesUntilMoltenByDivision_12 rfl hl (by decide) rfl (fun ls2 hl2 => ?_)
      exact lw_num C hr hlk hW9 hS9 (i := 0) rfl hp (v := 1) (by decide) (by decide) dL_minutesUntilMoltenByDivision_13 dL_minutesUntilMoltenByDivision_14 (Nat.le_of_eq (Nat.zero_add _)) (Nat.le_of_eq (Nat.zero_add _))
    · refine lw_catch C htab [(0, 9, 12, 13)] (0, 9, 15, 27) [] rfl (by decide +kernel) (by decide) rfl h91 h92 h93 ?_
      refine lv_astore_n hx hb dL_minutesUntilMoltenByDivision_15 rfl hl (by decide) rfl (fun ls2 hl2 => ?_)
      exact lw_num C hr hlk hW9 hS9 (i := 1) rfl hp (v := 2) (by decide) (by decide) dL_minutesUntilMoltenByDivision_16 dL_minutesUntilMoltenByDivision_17 (Nat.le_of_eq (Nat.zero_add _)) (Nat.le_of_eq (Nat.zero_add _))
  intro r Y H1 locs1 hW1 hS1 hp
  refine lv_i2l hx hb dL_minutesUntilMoltenByDivision_7 rfl ?_
  exact lw_tail (g := id) C hr hlk hW1 hS1 hp rfl dL_minutesUntilMoltenByDivision_8 dL_minutesUntilMoltenByDivision_9 (tgt := 18) (by decide) dL_minutesUntilMoltenByDivision_18 dL_minutesUntilMoltenByDivision_19 (Nat.le_of_eq (Nat.zero_add _)) (Nat.le_of_eq (Nat.zero_add _))
set_option maxHeartbeats 1000000 in
theorem hL_furnaceByTemperature (l : Launch) (G : GT) (X : St) (x : Int32) {k f n : Nat} {post : Int32 → St → Prop} {postx : String → St → Prop} (hM : MetXI l G k yX7_furnaceByTemperature (wsG yX7_furnaceByTemperature cX7_furnaceByTemperature 3 (some .int)) (rmk k f n) [.ref (ad G 715), .int x] X post postx) (hmem : ∀ (E : String) (Y : St), postx E Y → E ∈ ["java/util/NoSuchElementException"]) : MetXI l G k yL_furnaceByTemperature (wsW yL_furnaceByTemperature cL_furnaceByTemperature 4 (some .int) [(0, 9, 12, 27)]) (rmk k (f + 1) (n + 22)) [.ref (ad G 715), .int x, .ref (ad G 735)] X (lpost ["java/util/NoSuchElementException"] id post postx) nox := by
  refine g_metW (cc := cL_furnaceByTemperature) (maxL := 4) (ret := some .int) (hh := [(0, 9, 12, 27)]) (by decide) rfl (Nat.le_of_ble_eq_true rfl) ?_
  intro p e s m below meth c ls C hr hlk htab hW hl
  have hx := C.1.1
  have hb := C.1.2.1
  have hS : va_S (Ab G) s.heap s.heap [] := va_S.rf
  have hl : lv_has ls 4 [(0, .ref (ad G 715)), (1, .int x), (2, .ref (ad G 735))] := hl
  refine lv_aload_n hx hb dL_furnaceByTemperature_0 rfl (lv_at hl 2 rfl) ?_
  refine lv_iconst (v := 0) hx hb dL_furnaceByTemperature_1 (by decide) ?_
  refine lv_aload_n hx hb dL_furnaceByTemperature_2 rfl (lv_at hl 0 rfl) ?_
  refine lv_iload_n hx hb dL_furnaceByTemperature_3 rfl (lv_at hl 1 rfl) ?_
  refine g_cxi (vx_runV (As := [.int x]) (rest := [.int 0, .ref (ad G 735)]) C.1 hM (cwV 1 C.1.2.2.2.2 (gVW qw_1160 qw_1161 qw_1162 qw_71 qw_1163) rfl rfl rfl (by decide +kernel) ⟨Nat.le_refl _, by show 8 + (3 + 11) + n ≤ n + 22; omega⟩) (g_rFoundry C hW hS [.int x]) rfl rfl hl.1 rfl (lv_room (Nat.le_of_ble_eq_true rfl)) dL_furnaceByTemperature_4 ⟨Nat.le_of_eq (Nat.zero_add _), Nat.le_of_eq (Nat.zero_add _)⟩) hS ?_ ?_
  · intro E9 ce9 q9 Y H9 locs9 hW9 hS9 hp h91 h92 h93
    have hE := hmem _ _ hp
    simp only [List.mem_cons, List.not_mem_nil, or_false] at hE
    subst hE
    · refine lw_catch C htab [] (0, 9, 12, 27) [] rfl (by decide +kernel) (by decide) rfl h91 h92 h93 ?_
      refine lv_astore_n hx hb dL_furnaceByTemperature_12 rfl hl (by decide) rfl (fun ls2 hl2 => ?_)
      exact lw_num C hr hlk hW9 hS9 (i := 0) rfl hp (v := 1) (by decide) (by decide) dL_furnaceByTemperature_13 dL_furnaceByTemperature_14 (Nat.le_of_eq (Nat.zero_add _)) (Nat.le_of_eq (Nat.zero_add _))
  intro r Y H1 locs1 hW1 hS1 hp
  refine lv_i2l hx hb dL_furnaceByTemperature_7 rfl ?_
  exact lw_tail (g := id) C hr hlk hW1 hS1 hp rfl dL_furnaceByTemperature_8 dL_furnaceByTemperature_9 (tgt := 15) (by decide) dL_furnaceByTemperature_15 dL_furnaceByTemperature_16 (Nat.le_of_eq (Nat.zero_add _)) (Nat.le_of_eq (Nat.zero_add _))
set_option maxHeartbeats 1000000 in
theorem hL_ladleMass (l : Launch) (G : GT) (X : St) (x y : Int32) {k f n : Nat} {post : Int32 → St → Prop} {postx : String → St → Prop} (hM : MetXI l G k yX7_ladleMass (wsG yX7_ladleMass cX7_ladleMass 3 (some .int)) (rmk k f n) [.ref (ad G 715), .int x, .int y] X post postx) (hmem : ∀ (E : String) (Y : St), postx E Y → E ∈ ["java/lang/IndexOutOfBoundsException", "java/lang/IllegalArgumentException"]) : MetXI l G k yL_ladleMass (wsW yL_ladleMass cL_ladleMass 5 (some .int) [(0, 10, 13, 13), (0, 10, 17, 15)]) (rmk k (f + 1) (n + 22)) [.ref (ad G 715), .int x, .int y, .ref (ad G 735)] X (lpost ["java/lang/IndexOutOfBoundsException", "java/lang/IllegalArgumentException"] id post postx) nox := by
  refine g_metW (cc := cL_ladleMass) (maxL := 5) (ret := some .int) (hh := [(0, 10, 13, 13), (0, 10, 17, 15)]) (by decide) rfl (Nat.le_of_ble_eq_true rfl) ?_
  intro p e s m below meth c ls C hr hlk htab hW hl
  have hx := C.1.1
  have hb := C.1.2.1
  have hS : va_S (Ab G) s.heap s.heap [] := va_S.rf
  have hl : lv_has ls 5 [(0, .ref (ad G 715)), (1, .int x), (2, .int y), (3, .ref (ad G 735))] := hl
  refine lv_aload_n hx hb dL_ladleMass_0 rfl (lv_at hl 3 rfl) ?_
  refine lv_iconst (v := 0) hx hb dL_ladleMass_1 (by decide) ?_
  refine lv_aload_n hx hb dL_ladleMass_2 rfl (lv_at hl 0 rfl) ?_
  refine lv_iload_n hx hb dL_ladleMass_3 rfl (lv_at hl 1 rfl) ?_
  refine lv_iload_n hx hb dL_ladleMass_4 rfl (lv_at hl 2 rfl) ?_
  refine g_cxi (vx_runV (As := [.int x, .int y]) (rest := [.int 0, .ref (ad G 735)]) C.1 hM (cwV 2 C.1.2.2.2.2 (gVW qw_1175 qw_1176 qw_1177 qw_71 qw_1178) rfl rfl rfl (by decide +kernel) ⟨Nat.le_refl _, by show 8 + (3 + 11) + n ≤ n + 22; omega⟩) (g_rFoundry C hW hS [.int x, .int y]) rfl rfl hl.1 rfl (lv_room (Nat.le_of_ble_eq_true rfl)) dL_ladleMass_5 ⟨Nat.le_of_eq (Nat.zero_add _), Nat.le_of_eq (Nat.zero_add _)⟩) hS ?_ ?_
  · intro E9 ce9 q9 Y H9 locs9 hW9 hS9 hp h91 h92 h93
    have hE := hmem _ _ hp
    simp only [List.mem_cons, List.not_mem_nil, or_false] at hE
    rcases hE with rfl | rfl
    · refine lw_catch C htab [] (0, 10, 13, 13) [(0, 10, 17, 15)] rfl (by decide +kernel) (by decide) rfl h91 h92 h93 ?_
      refine lv_astore hx hb dL_ladleMass_13 hl (by decide) rfl (fun ls2 hl2 => ?_)
      exact lw_num C hr hlk hW9 hS9 (i := 0) rfl hp (v := 1) (by decide) (by decide) dL_ladleMass_15 dL_ladleMass_16 (Nat.le_of_eq (Nat.zero_add _)) (Nat.le_of_eq (Nat.zero_add _))
    · refine lw_catch C htab [(0, 10, 13, 13)] (0, 10, 17, 15) [] rfl (by decide +kernel) (by decide) rfl h91 h92 h93 ?_
      refine lv_astore hx hb dL_ladleMass_17 hl (by decide) rfl (fun ls2 hl2 => ?_)
      exact lw_num C hr hlk hW9 hS9 (i := 1) rfl hp (v := 2) (by decide) (by decide) dL_ladleMass_19 dL_ladleMass_20 (Nat.le_of_eq (Nat.zero_add _)) (Nat.le_of_eq (Nat.zero_add _))
  intro r Y H1 locs1 hW1 hS1 hp
  refine lv_i2l hx hb dL_ladleMass_8 rfl ?_
  exact lw_tail (g := id) C hr hlk hW1 hS1 hp rfl dL_ladleMass_9 dL_ladleMass_10 (tgt := 21) (by decide) dL_ladleMass_21 dL_ladleMass_22 (Nat.le_of_eq (Nat.zero_add _)) (Nat.le_of_eq (Nat.zero_add _))
set_option maxHeartbeats 1000000 in
theorem hL_ladleTotal (l : Launch) (G : GT) (X : St) (x : Int32) {k f n : Nat} {post : Int32 → St → Prop} {postx : String → St → Prop} (hM : MetXI l G k yX7_ladleTotal (wsG yX7_ladleTotal cX7_ladleTotal 2 (some .int)) (rmk k f n) [.ref (ad G 715), .int x] X post postx) (hmem : ∀ (E : String) (Y : St), postx E Y → E ∈ ["java/lang/IndexOutOfBoundsException"]) : MetXI l G k yL_ladleTotal (wsW yL_ladleTotal cL_ladleTotal 4 (some .int) [(0, 9, 12, 13)]) (rmk k (f + 1) (n + 21)) [.ref (ad G 715), .int x, .ref (ad G 735)] X (lpost ["java/lang/IndexOutOfBoundsException"] id post postx) nox := by
  refine g_metW (cc := cL_ladleTotal) (maxL := 4) (ret := some .int) (hh := [(0, 9, 12, 13)]) (by decide) rfl (Nat.le_of_ble_eq_true rfl) ?_
  intro p e s m below meth c ls C hr hlk htab hW hl
  have hx := C.1.1
  have hb := C.1.2.1
  have hS : va_S (Ab G) s.heap s.heap [] := va_S.rf
  have hl : lv_has ls 4 [(0, .ref (ad G 715)), (1, .int x), (2, .ref (ad G 735))] := hl
  refine lv_aload_n hx hb dL_ladleTotal_0 rfl (lv_at hl 2 rfl) ?_
  refine lv_iconst (v := 0) hx hb dL_ladleTotal_1 (by decide) ?_
  refine lv_aload_n hx hb dL_ladleTotal_2 rfl (lv_at hl 0 rfl) ?_
  refine lv_iload_n hx hb dL_ladleTotal_3 rfl (lv_at hl 1 rfl) ?_
  refine g_cxi (vx_runV (As := [.int x]) (rest := [.int 0, .ref (ad G 735)]) C.1 hM (cwV 1 C.1.2.2.2.2 (gVW qw_1182 qw_1183 qw_1184 qw_71 qw_1185) rfl rfl rfl (by decide +kernel) ⟨Nat.le_refl _, by show 8 + (2 + 11) + n ≤ n + 21; omega⟩) (g_rFoundry C hW hS [.int x]) rfl rfl hl.1 rfl (lv_room (Nat.le_of_ble_eq_true rfl)) dL_ladleTotal_4 ⟨Nat.le_of_eq (Nat.zero_add _), Nat.le_of_eq (Nat.zero_add _)⟩) hS ?_ ?_
  · intro E9 ce9 q9 Y H9 locs9 hW9 hS9 hp h91 h92 h93
    have hE := hmem _ _ hp
    simp only [List.mem_cons, List.not_mem_nil, or_false] at hE
    subst hE
    · refine lw_catch C htab [] (0, 9, 12, 13) [] rfl (by decide +kernel) (by decide) rfl h91 h92 h93 ?_
      refine lv_astore_n hx hb dL_ladleTotal_12 rfl hl (by decide) rfl (fun ls2 hl2 => ?_)
      exact lw_num C hr hlk hW9 hS9 (i := 0) rfl hp (v := 1) (by decide) (by decide) dL_ladleTotal_13 dL_ladleTotal_14 (Nat.le_of_eq (Nat.zero_add _)) (Nat.le_of_eq (Nat.zero_add _))
  intro r Y H1 locs1 hW1 hS1 hp
  refine lv_i2l hx hb dL_ladleTotal_7 rfl ?_
  exact lw_tail (g := id) C hr hlk hW1 hS1 hp rfl dL_ladleTotal_8 dL_ladleTotal_9 (tgt := 15) (by decide) dL_ladleTotal_15 dL_ladleTotal_16 (Nat.le_of_eq (Nat.zero_add _)) (Nat.le_of_eq (Nat.zero_add _))
set_option maxHeartbeats 1000000 in
theorem hL_ladleTemperature (l : Launch) (G : GT) (X : St) (x : Int32) {k f n : Nat} {post : Int32 → St → Prop} {postx : String → St → Prop} (hM : MetXI l G k yX7_ladleTemperature (wsG yX7_ladleTemperature cX7_ladleTemperature 2 (some .int)) (rmk k f n) [.ref (ad G 715), .int x] X post postx) (hmem : ∀ (E : String) (Y : St), postx E Y → E ∈ ["java/lang/IndexOutOfBoundsException"]) : MetXI l G k yL_ladleTemperature (wsW yL_ladleTemperature cL_ladleTemperature 4 (some .int) [(0, 9, 12, 13)]) (rmk k (f + 1) (n + 21)) [.ref (ad G 715), .int x, .ref (ad G 735)] X (lpost ["java/lang/IndexOutOfBoundsException"] id post postx) nox := by
  refine g_metW (cc := cL_ladleTemperature) (maxL := 4) (ret := some .int) (hh := [(0, 9, 12, 13)]) (by decide) rfl (Nat.le_of_ble_eq_true rfl) ?_
  intro p e s m below meth c ls C hr hlk htab hW hl
  have hx := C.1.1
  have hb := C.1.2.1
  have hS : va_S (Ab G) s.heap s.heap [] := va_S.rf
  have hl : lv_has ls 4 [(0, .ref (ad G 715)), (1, .int x), (2, .ref (ad G 735))] := hl
  refine lv_aload_n hx hb dL_ladleTemperature_0 rfl (lv_at hl 2 rfl) ?_
  refine lv_iconst (v := 0) hx hb dL_ladleTemperature_1 (by decide) ?_
  refine lv_aload_n hx hb dL_ladleTemperature_2 rfl (lv_at hl 0 rfl) ?_
  refine lv_iload_n hx hb dL_ladleTemperature_3 rfl (lv_at hl 1 rfl) ?_
  refine g_cxi (vx_runV (As := [.int x]) (rest := [.int 0, .ref (ad G 735)]) C.1 hM (cwV 1 C.1.2.2.2.2 (gVW qw_1189 qw_1190 qw_1191 qw_71 qw_1192) rfl rfl rfl (by decide +kernel) ⟨Nat.le_refl _, by show 8 + (2 + 11) + n ≤ n + 21; omega⟩) (g_rFoundry C hW hS [.int x]) rfl rfl hl.1 rfl (lv_room (Nat.le_of_ble_eq_true rfl)) dL_ladleTemperature_4 ⟨Nat.le_of_eq (Nat.zero_add _), Nat.le_of_eq (Nat.zero_add _)⟩) hS ?_ ?_
  · intro E9 ce9 q9 Y H9 locs9 hW9 hS9 hp h91 h92 h93
    have hE := hmem _ _ hp
    simp only [List.mem_cons, List.not_mem_nil, or_false] at hE
    subst hE
    · refine lw_catch C htab [] (0, 9, 12, 13) [] rfl (by decide +kernel) (by decide) rfl h91 h92 h93 ?_
      refine lv_astore_n hx hb dL_ladleTemperature_12 rfl hl (by decide) rfl (fun ls2 hl2 => ?_)
      exact lw_num C hr hlk hW9 hS9 (i := 0) rfl hp (v := 1) (by decide) (by decide) dL_ladleTemperature_13 dL_ladleTemperature_14 (Nat.le_of_eq (Nat.zero_add _)) (Nat.le_of_eq (Nat.zero_add _))
  intro r Y H1 locs1 hW1 hS1 hp
  refine lv_i2l hx hb dL_ladleTemperature_7 rfl ?_
  exact lw_tail (g := id) C hr hlk hW1 hS1 hp rfl dL_ladleTemperature_8 dL_ladleTemperature_9 (tgt := 15) (by decide) dL_ladleTemperature_15 dL_ladleTemperature_16 (Nat.le_of_eq (Nat.zero_add _)) (Nat.le_of_eq (Nat.zero_add _))
set_option maxHeartbeats 1000000 in
theorem hL_pouringMinutes (l : Launch) (G : GT) (X : St) (x : Int32) {k f n : Nat} {post : Int32 → St → Prop} {postx : String → St → Prop} (hM : MetXI l G k yX7_pouringMinutes (wsG yX7_pouringMinutes cX7_pouringMinutes 3 (some .int)) (rmk k f n) [.ref (ad G 715), .int x] X post postx) (hmem : ∀ (E : String) (Y : St), postx E Y → E ∈ ["java/lang/IndexOutOfBoundsException", "java/util/NoSuchElementException"]) : MetXI l G k yL_pouringMinutes (wsW yL_pouringMinutes cL_pouringMinutes 4 (some .int) [(0, 9, 12, 13), (0, 9, 15, 27)]) (rmk k (f + 1) (n + 22)) [.ref (ad G 715), .int x, .ref (ad G 735)] X (lpost ["java/lang/IndexOutOfBoundsException", "java/util/NoSuchElementException"] id post postx) nox := by
  refine g_metW (cc := cL_pouringMinutes) (maxL := 4) (ret := some .int) (hh := [(0, 9, 12, 13), (0, 9, 15, 27)]) (by decide) rfl (Nat.le_of_ble_eq_true rfl) ?_
  intro p e s m below meth c ls C hr hlk htab hW hl
  have hx := C.1.1
  have hb := C.1.2.1
  have hS : va_S (Ab G) s.heap s.heap [] := va_S.rf
  have hl : lv_has ls 4 [(0, .ref (ad G 715)), (1, .int x), (2, .ref (ad G 735))] := hl
  refine lv_aload_n hx hb dL_pouringMinutes_0 rfl (lv_at hl 2 rfl) ?_
  refine lv_iconst (v := 0) hx hb dL_pouringMinutes_1 (by decide) ?_
  refine lv_aload_n hx hb dL_pouringMinutes_2 rfl (lv_at hl 0 rfl) ?_
  refine lv_iload_n hx hb dL_pouringMinutes_3 rfl (lv_at hl 1 rfl) ?_
  refine g_cxi (vx_runV (As := [.int x]) (rest := [.int 0, .ref (ad G 735)]) C.1 hM (cwV 1 C.1.2.2.2.2 (gVW qw_1196 qw_1197 qw_1198 qw_71 qw_1199) rfl rfl rfl (by decide +kernel) ⟨Nat.le_refl _, by show 8 + (3 + 11) + n ≤ n + 22; omega⟩) (g_rFoundry C hW hS [.int x]) rfl rfl hl.1 rfl (lv_room (Nat.le_of_ble_eq_true rfl)) dL_pouringMinutes_4 ⟨Nat.le_of_eq (Nat.zero_add _), Nat.le_of_eq (Nat.zero_add _)⟩) hS ?_ ?_
  · intro E9 ce9 q9 Y H9 locs9 hW9 hS9 hp h91 h92 h93
    have hE := hmem _ _ hp
    simp only [List.mem_cons, List.not_mem_nil, or_false] at hE
    rcases hE with rfl | rfl
    · refine lw_catch C htab [] (0, 9, 12, 13) [(0, 9, 15, 27)] rfl (by decide +kernel) (by decide) rfl h91 h92 h93 ?_
      refine lv_astore_n hx hb dL_pouringMinutes_12 rfl hl (by decide) rfl (fun ls2 hl2 => ?_)
      exact lw_num C hr hlk hW9 hS9 (i := 0) rfl hp (v := 1) (by decide) (by decide) dL_pouringMinutes_13 dL_pouringMinutes_14 (Nat.le_of_eq (Nat.zero_add _)) (Nat.le_of_eq (Nat.zero_add _))
    · refine lw_catch C htab [(0, 9, 12, 13)] (0, 9, 15, 27) [] rfl (by decide +kernel) (by decide) rfl h91 h92 h93 ?_
      refine lv_astore_n hx hb dL_pouringMinutes_15 rfl hl (by decide) rfl (fun ls2 hl2 => ?_)
      exact lw_num C hr hlk hW9 hS9 (i := 1) rfl hp (v := 2) (by decide) (by decide) dL_pouringMinutes_16 dL_pouringMinutes_17 (Nat.le_of_eq (Nat.zero_add _)) (Nat.le_of_eq (Nat.zero_add _))
  intro r Y H1 locs1 hW1 hS1 hp
  refine lv_i2l hx hb dL_pouringMinutes_7 rfl ?_
  exact lw_tail (g := id) C hr hlk hW1 hS1 hp rfl dL_pouringMinutes_8 dL_pouringMinutes_9 (tgt := 18) (by decide) dL_pouringMinutes_18 dL_pouringMinutes_19 (Nat.le_of_eq (Nat.zero_add _)) (Nat.le_of_eq (Nat.zero_add _))
set_option maxHeartbeats 1000000 in
theorem hL_volume (l : Launch) (G : GT) (X : St) (x : Int32) {k f n : Nat} {post : Int32 → St → Prop} {postx : String → St → Prop} (hM : MetXI l G k yX7_volume (wsG yX7_volume cX7_volume 2 (some .int)) (rmk k f n) [.ref (ad G 715), .int x] X post postx) (hmem : ∀ (E : String) (Y : St), postx E Y → E ∈ ["java/lang/IndexOutOfBoundsException"]) : MetXI l G k yL_volume (wsW yL_volume cL_volume 4 (some .int) [(0, 9, 12, 13)]) (rmk k (f + 1) (n + 21)) [.ref (ad G 715), .int x, .ref (ad G 735)] X (lpost ["java/lang/IndexOutOfBoundsException"] id post postx) nox := by
  refine g_metW (cc := cL_volume) (maxL := 4) (ret := some .int) (hh := [(0, 9, 12, 13)]) (by decide) rfl (Nat.le_of_ble_eq_true rfl) ?_
  intro p e s m below meth c ls C hr hlk htab hW hl
  have hx := C.1.1
  have hb := C.1.2.1
  have hS : va_S (Ab G) s.heap s.heap [] := va_S.rf
  have hl : lv_has ls 4 [(0, .ref (ad G 715)), (1, .int x), (2, .ref (ad G 735))] := hl
  refine lv_aload_n hx hb dL_volume_0 rfl (lv_at hl 2 rfl) ?_
  refine lv_iconst (v := 0) hx hb dL_volume_1 (by decide) ?_
  refine lv_aload_n hx hb dL_volume_2 rfl (lv_at hl 0 rfl) ?_
  refine lv_iload_n hx hb dL_volume_3 rfl (lv_at hl 1 rfl) ?_
  refine g_cxi (vx_runV (As := [.int x]) (rest := [.int 0, .ref (ad G 735)]) C.1 hM (cwV 1 C.1.2.2.2.2 (gVW qw_1203 qw_1204 qw_1205 qw_71 qw_1206) rfl rfl rfl (by decide +kernel) ⟨Nat.le_refl _, by show 8 + (2 + 11) + n ≤ n + 21; omega⟩) (g_rFoundry C hW hS [.int x]) rfl rfl hl.1 rfl (lv_room (Nat.le_of_ble_eq_true rfl)) dL_volume_4 ⟨Nat.le_of_eq (Nat.zero_add _), Nat.le_of_eq (Nat.zero_add _)⟩) hS ?_ ?_
  · intro E9 ce9 q9 Y H9 locs9 hW9 hS9 hp h91 h92 h93
    have hE := hmem _ _ hp
    simp only [List.mem_cons, List.not_mem_nil, or_false] at hE
    subst hE
    · refine lw_catch C htab [] (0, 9, 12, 13) [] rfl (by decide +kernel) (by decide) rfl h91 h92 h93 ?_
      refine lv_astore_n hx hb dL_volume_12 rfl hl (by decide) rfl (fun ls2 hl2 => ?_)
      exact lw_num C hr hlk hW9 hS9 (i := 0) rfl hp (v := 1) (by decide) (by decide) dL_volume_13 dL_volume_14 (Nat.le_of_eq (Nat.zero_add _)) (Nat.le_of_eq (Nat.zero_add _))
  intro r Y H1 locs1 hW1 hS1 hp
  refine lv_i2l hx hb dL_volume_7 rfl ?_
  exact lw_tail (g := id) C hr hlk hW1 hS1 hp rfl dL_volume_8 dL_volume_9 (tgt := 15) (by decide) dL_volume_15 dL_volume_16 (Nat.le_of_eq (Nat.zero_add _)) (Nat.le_of_eq (Nat.zero_add _))
set_option maxHeartbeats 1000000 in
theorem hL_isFilled (l : Launch) (G : GT) (X : St) (x : Int32) {k f n : Nat} {post : Int32 → St → Prop} {postx : String → St → Prop} (hM : MetXI l G k yX7_isFilled (wsG yX7_isFilled cX7_isFilled 2 (some .boolean)) (rmk k f n) [.ref (ad G 715), .int x] X post postx) (hmem : ∀ (E : String) (Y : St), postx E Y → E ∈ ["java/lang/IndexOutOfBoundsException"]) : MetXI l G k yL_isFilled (wsW yL_isFilled cL_isFilled 4 (some .int) [(0, 16, 19, 13)]) (rmk k (f + 1) (n + 21)) [.ref (ad G 715), .int x, .ref (ad G 735)] X (lpost ["java/lang/IndexOutOfBoundsException"] (fun r => if r = 0 then 0 else 1) post postx) nox := by
  refine g_metW (cc := cL_isFilled) (maxL := 4) (ret := some .int) (hh := [(0, 16, 19, 13)]) (by decide) rfl (Nat.le_of_ble_eq_true rfl) ?_
  intro p e s m below meth c ls C hr hlk htab hW hl
  have hx := C.1.1
  have hb := C.1.2.1
  have hS : va_S (Ab G) s.heap s.heap [] := va_S.rf
  have hl : lv_has ls 4 [(0, .ref (ad G 715)), (1, .int x), (2, .ref (ad G 735))] := hl
  refine lv_aload_n hx hb dL_isFilled_0 rfl (lv_at hl 2 rfl) ?_
  refine lv_iconst (v := 0) hx hb dL_isFilled_1 (by decide) ?_
  refine lv_aload_n hx hb dL_isFilled_2 rfl (lv_at hl 0 rfl) ?_
  refine lv_iload_n hx hb dL_isFilled_3 rfl (lv_at hl 1 rfl) ?_
  refine g_cxi (vx_runV (As := [.int x]) (rest := [.int 0, .ref (ad G 735)]) C.1 hM (cwV 1 C.1.2.2.2.2 (gVW qw_1210 qw_1211 qw_1212 qw_71 qw_1213) rfl rfl rfl (by decide +kernel) ⟨Nat.le_refl _, by show 8 + (2 + 11) + n ≤ n + 21; omega⟩) (g_rFoundry C hW hS [.int x]) rfl rfl hl.1 rfl (lv_room (Nat.le_of_ble_eq_true rfl)) dL_isFilled_4 ⟨Nat.le_of_eq (Nat.zero_add _), Nat.le_of_eq (Nat.zero_add _)⟩) hS ?_ ?_
  · intro E9 ce9 q9 Y H9 locs9 hW9 hS9 hp h91 h92 h93
    have hE := hmem _ _ hp
    simp only [List.mem_cons, List.not_mem_nil, or_false] at hE
    subst hE
    · refine lw_catch C htab [] (0, 16, 19, 13) [] rfl (by decide +kernel) (by decide) rfl h91 h92 h93 ?_
      refine lv_astore_n hx hb dL_isFilled_19 rfl hl (by decide) rfl (fun ls2 hl2 => ?_)
      exact lw_num C hr hlk hW9 hS9 (i := 0) rfl hp (v := 1) (by decide) (by decide) dL_isFilled_20 dL_isFilled_21 (Nat.le_of_eq (Nat.zero_add _)) (Nat.le_of_eq (Nat.zero_add _))
  intro r Y H1 locs1 hW1 hS1 hp
  refine lv_if_eq (tgt := 14) hx hb dL_isFilled_7 (by decide) (fun hr0 => ?_) (fun hr0 => ?_)
  · refine lv_lconst (v := (0 : Int32).toInt64) hx hb dL_isFilled_14 (by decide) ?_
    exact lw_tail C hr hlk hW1 hS1 hp (if_pos hr0) dL_isFilled_15 dL_isFilled_16 (tgt := 22) (by decide) dL_isFilled_22 dL_isFilled_23 (Nat.le_of_eq (Nat.zero_add _)) (Nat.le_of_eq (Nat.zero_add _))
  · refine lv_lconst (v := (1 : Int32).toInt64) hx hb dL_isFilled_10 (by decide) ?_
    refine lv_goto hx hb dL_isFilled_11 (tgt := 15) (by decide) ?_
    exact lw_tail C hr hlk hW1 hS1 hp (if_neg hr0) dL_isFilled_15 dL_isFilled_16 (tgt := 22) (by decide) dL_isFilled_22 dL_isFilled_23 (Nat.le_of_eq (Nat.zero_add _)) (Nat.le_of_eq (Nat.zero_add _))
set_option maxHeartbeats 1000000 in
theorem hL_mouldMass (l : Launch) (G : GT) (X : St) (x y : Int32) {k f n : Nat} {post : Int32 → St → Prop} {postx : String → St → Prop} (hM : MetXI l G k yX7_mouldMass (wsG yX7_mouldMass cX7_mouldMass 3 (some .int)) (rmk k f n) [.ref (ad G 715), .int x, .int y] X post postx) (hmem : ∀ (E : String) (Y : St), postx E Y → E ∈ ["java/lang/IndexOutOfBoundsException", "java/lang/IllegalArgumentException"]) : MetXI l G k yL_mouldMass (wsW yL_mouldMass cL_mouldMass 5 (some .int) [(0, 10, 13, 13), (0, 10, 17, 15)]) (rmk k (f + 1) (n + 22)) [.ref (ad G 715), .int x, .int y, .ref (ad G 735)] X (lpost ["java/lang/IndexOutOfBoundsException", "java/lang/IllegalArgumentException"] id post postx) nox := by
  refine g_metW (cc := cL_mouldMass) (maxL := 5) (ret := some .int) (hh := [(0, 10, 13, 13), (0, 10, 17, 15)]) (by decide) rfl (Nat.le_of_ble_eq_true rfl) ?_
  intro p e s m below meth c ls C hr hlk htab hW hl
  have hx := C.1.1
  have hb := C.1.2.1
  have hS : va_S (Ab G) s.heap s.heap [] := va_S.rf
  have hl : lv_has ls 5 [(0, .ref (ad G 715)), (1, .int x), (2, .int y), (3, .ref (ad G 735))] := hl
  refine lv_aload_n hx hb dL_mouldMass_0 rfl (lv_at hl 3 rfl) ?_
  refine lv_iconst (v := 0) hx hb dL_mouldMass_1 (by decide) ?_
  refine lv_aload_n hx hb dL_mouldMass_2 rfl (lv_at hl 0 rfl) ?_
  refine lv_iload_n hx hb dL_mouldMass_3 rfl (lv_at hl 1 rfl) ?_
  refine lv_iload_n hx hb dL_mouldMass_4 rfl (lv_at hl 2 rfl) ?_
  refine g_cxi (vx_runV (As := [.int x, .int y]) (rest := [.int 0, .ref (ad G 735)]) C.1 hM (cwV 2 C.1.2.2.2.2 (gVW qw_1217 qw_1218 qw_1219 qw_71 qw_1220) rfl rfl rfl (by decide +kernel) ⟨Nat.le_refl _, by show 8 + (3 + 11) + n ≤ n + 22; omega⟩) (g_rFoundry C hW hS [.int x, .int y]) rfl rfl hl.1 rfl (lv_room (Nat.le_of_ble_eq_true rfl)) dL_mouldMass_5 ⟨Nat.le_of_eq (Nat.zero_add _), Nat.le_of_eq (Nat.zero_add _)⟩) hS ?_ ?_
  · intro E9 ce9 q9 Y H9 locs9 hW9 hS9 hp h91 h92 h93
    have hE := hmem _ _ hp
    simp only [List.mem_cons, List.not_mem_nil, or_false] at hE
    rcases hE with rfl | rfl
    · refine lw_catch C htab [] (0, 10, 13, 13) [(0, 10, 17, 15)] rfl (by decide +kernel) (by decide) rfl h91 h92 h93 ?_
      refine lv_astore hx hb dL_mouldMass_13 hl (by decide) rfl (fun ls2 hl2 => ?_)
      exact lw_num C hr hlk hW9 hS9 (i := 0) rfl hp (v := 1) (by decide) (by decide) dL_mouldMass_15 dL_mouldMass_16 (Nat.le_of_eq (Nat.zero_add _)) (Nat.le_of_eq (Nat.zero_add _))
    · refine lw_catch C htab [(0, 10, 13, 13)] (0, 10, 17, 15) [] rfl (by decide +kernel) (by decide) rfl h91 h92 h93 ?_
      refine lv_astore hx hb dL_mouldMass_17 hl (by decide) rfl (fun ls2 hl2 => ?_)
      exact lw_num C hr hlk hW9 hS9 (i := 1) rfl hp (v := 2) (by decide) (by decide) dL_mouldMass_19 dL_mouldMass_20 (Nat.le_of_eq (Nat.zero_add _)) (Nat.le_of_eq (Nat.zero_add _))
  intro r Y H1 locs1 hW1 hS1 hp
  refine lv_i2l hx hb dL_mouldMass_8 rfl ?_
  exact lw_tail (g := id) C hr hlk hW1 hS1 hp rfl dL_mouldMass_9 dL_mouldMass_10 (tgt := 21) (by decide) dL_mouldMass_21 dL_mouldMass_22 (Nat.le_of_eq (Nat.zero_add _)) (Nat.le_of_eq (Nat.zero_add _))
set_option maxHeartbeats 1000000 in
theorem hL_ingotMass (l : Launch) (G : GT) (X : St) (x y : Int32) {k f n : Nat} {post : Int32 → St → Prop} {postx : String → St → Prop} (hM : MetXI l G k yX7_ingotMass (wsG yX7_ingotMass cX7_ingotMass 3 (some .int)) (rmk k f n) [.ref (ad G 715), .int x, .int y] X post postx) (hmem : ∀ (E : String) (Y : St), postx E Y → E ∈ ["java/lang/IndexOutOfBoundsException", "java/lang/IllegalArgumentException"]) : MetXI l G k yL_ingotMass (wsW yL_ingotMass cL_ingotMass 5 (some .int) [(0, 10, 13, 13), (0, 10, 17, 15)]) (rmk k (f + 1) (n + 22)) [.ref (ad G 715), .int x, .int y, .ref (ad G 735)] X (lpost ["java/lang/IndexOutOfBoundsException", "java/lang/IllegalArgumentException"] id post postx) nox := by
  refine g_metW (cc := cL_ingotMass) (maxL := 5) (ret := some .int) (hh := [(0, 10, 13, 13), (0, 10, 17, 15)]) (by decide) rfl (Nat.le_of_ble_eq_true rfl) ?_
  intro p e s m below meth c ls C hr hlk htab hW hl
  have hx := C.1.1
  have hb := C.1.2.1
  have hS : va_S (Ab G) s.heap s.heap [] := va_S.rf
  have hl : lv_has ls 5 [(0, .ref (ad G 715)), (1, .int x), (2, .int y), (3, .ref (ad G 735))] := hl
  refine lv_aload_n hx hb dL_ingotMass_0 rfl (lv_at hl 3 rfl) ?_
  refine lv_iconst (v := 0) hx hb dL_ingotMass_1 (by decide) ?_
  refine lv_aload_n hx hb dL_ingotMass_2 rfl (lv_at hl 0 rfl) ?_
  refine lv_iload_n hx hb dL_ingotMass_3 rfl (lv_at hl 1 rfl) ?_
  refine lv_iload_n hx hb dL_ingotMass_4 rfl (lv_at hl 2 rfl) ?_
  refine g_cxi (vx_runV (As := [.int x, .int y]) (rest := [.int 0, .ref (ad G 735)]) C.1 hM (cwV 2 C.1.2.2.2.2 (gVW qw_1224 qw_1225 qw_1226 qw_71 qw_1227) rfl rfl rfl (by decide +kernel) ⟨Nat.le_refl _, by show 8 + (3 + 11) + n ≤ n + 22; omega⟩) (g_rFoundry C hW hS [.int x, .int y]) rfl rfl hl.1 rfl (lv_room (Nat.le_of_ble_eq_true rfl)) dL_ingotMass_5 ⟨Nat.le_of_eq (Nat.zero_add _), Nat.le_of_eq (Nat.zero_add _)⟩) hS ?_ ?_
  · intro E9 ce9 q9 Y H9 locs9 hW9 hS9 hp h91 h92 h93
    have hE := hmem _ _ hp
    simp only [List.mem_cons, List.not_mem_nil, or_false] at hE
    rcases hE with rfl | rfl
    · refine lw_catch C htab [] (0, 10, 13, 13) [(0, 10, 17, 15)] rfl (by decide +kernel) (by decide) rfl h91 h92 h93 ?_
      refine lv_astore hx hb dL_ingotMass_13 hl (by decide) rfl (fun ls2 hl2 => ?_)
      exact lw_num C hr hlk hW9 hS9 (i := 0) rfl hp (v := 1) (by decide) (by decide) dL_ingotMass_15 dL_ingotMass_16 (Nat.le_of_eq (Nat.zero_add _)) (Nat.le_of_eq (Nat.zero_add _))
    · refine lw_catch C htab [(0, 10, 13, 13)] (0, 10, 17, 15) [] rfl (by decide +kernel) (by decide) rfl h91 h92 h93 ?_
      refine lv_astore hx hb dL_ingotMass_17 hl (by decide) rfl (fun ls2 hl2 => ?_)
      exact lw_num C hr hlk hW9 hS9 (i := 1) rfl hp (v := 2) (by decide) (by decide) dL_ingotMass_19 dL_ingotMass_20 (Nat.le_of_eq (Nat.zero_add _)) (Nat.le_of_eq (Nat.zero_add _))
  intro r Y H1 locs1 hW1 hS1 hp
  refine lv_i2l hx hb dL_ingotMass_8 rfl ?_
  exact lw_tail (g := id) C hr hlk hW1 hS1 hp rfl dL_ingotMass_9 dL_ingotMass_10 (tgt := 21) (by decide) dL_ingotMass_21 dL_ingotMass_22 (Nat.le_of_eq (Nat.zero_add _)) (Nat.le_of_eq (Nat.zero_add _))
set_option maxHeartbeats 1000000 in
theorem hL_share (l : Launch) (G : GT) (X : St) (x y : Int32) {k f n : Nat} {post : Int32 → St → Prop} {postx : String → St → Prop} (hM : MetXI l G k yX7_share (wsG yX7_share cX7_share 3 (some .int)) (rmk k f n) [.ref (ad G 715), .int x, .int y] X post postx) (hmem : ∀ (E : String) (Y : St), postx E Y → E ∈ ["java/lang/IndexOutOfBoundsException", "java/lang/IllegalArgumentException"]) : MetXI l G k yL_share (wsW yL_share cL_share 5 (some .int) [(0, 10, 13, 13), (0, 10, 17, 15)]) (rmk k (f + 1) (n + 22)) [.ref (ad G 715), .int x, .int y, .ref (ad G 735)] X (lpost ["java/lang/IndexOutOfBoundsException", "java/lang/IllegalArgumentException"] id post postx) nox := by
  refine g_metW (cc := cL_share) (maxL := 5) (ret := some .int) (hh := [(0, 10, 13, 13), (0, 10, 17, 15)]) (by decide) rfl (Nat.le_of_ble_eq_true rfl) ?_
  intro p e s m below meth c ls C hr hlk htab hW hl
  have hx := C.1.1
  have hb := C.1.2.1
  have hS : va_S (Ab G) s.heap s.heap [] := va_S.rf
  have hl : lv_has ls 5 [(0, .ref (ad G 715)), (1, .int x), (2, .int y), (3, .ref (ad G 735))] := hl
  refine lv_aload_n hx hb dL_share_0 rfl (lv_at hl 3 rfl) ?_
  refine lv_iconst (v := 0) hx hb dL_share_1 (by decide) ?_
  refine lv_aload_n hx hb dL_share_2 rfl (lv_at hl 0 rfl) ?_
  refine lv_iload_n hx hb dL_share_3 rfl (lv_at hl 1 rfl) ?_
  refine lv_iload_n hx hb dL_share_4 rfl (lv_at hl 2 rfl) ?_
  refine g_cxi (vx_runV (As := [.int x, .int y]) (rest := [.int 0, .ref (ad G 735)]) C.1 hM (cwV 2 C.1.2.2.2.2 (gVW qw_1231 qw_1232 qw_1233 qw_71 qw_1234) rfl rfl rfl (by decide +kernel) ⟨Nat.le_refl _, by show 8 + (3 + 11) + n ≤ n + 22; omega⟩) (g_rFoundry C hW hS [.int x, .int y]) rfl rfl hl.1 rfl (lv_room (Nat.le_of_ble_eq_true rfl)) dL_share_5 ⟨Nat.le_of_eq (Nat.zero_add _), Nat.le_of_eq (Nat.zero_add _)⟩) hS ?_ ?_
  · intro E9 ce9 q9 Y H9 locs9 hW9 hS9 hp h91 h92 h93
    have hE := hmem _ _ hp
    simp only [List.mem_cons, List.not_mem_nil, or_false] at hE
    rcases hE with rfl | rfl
    · refine lw_catch C htab [] (0, 10, 13, 13) [(0, 10, 17, 15)] rfl (by decide +kernel) (by decide) rfl h91 h92 h93 ?_
      refine lv_astore hx hb dL_share_13 hl (by decide) rfl (fun ls2 hl2 => ?_)
      exact lw_num C hr hlk hW9 hS9 (i := 0) rfl hp (v := 1) (by decide) (by decide) dL_share_15 dL_share_16 (Nat.le_of_eq (Nat.zero_add _)) (Nat.le_of_eq (Nat.zero_add _))
    · refine lw_catch C htab [(0, 10, 13, 13)] (0, 10, 17, 15) [] rfl (by decide +kernel) (by decide) rfl h91 h92 h93 ?_
      refine lv_astore hx hb dL_share_17 hl (by decide) rfl (fun ls2 hl2 => ?_)
      exact lw_num C hr hlk hW9 hS9 (i := 1) rfl hp (v := 2) (by decide) (by decide) dL_share_19 dL_share_20 (Nat.le_of_eq (Nat.zero_add _)) (Nat.le_of_eq (Nat.zero_add _))
  intro r Y H1 locs1 hW1 hS1 hp
  refine lv_i2l hx hb dL_share_8 rfl ?_
  exact lw_tail (g := id) C hr hlk hW1 hS1 hp rfl dL_share_9 dL_share_10 (tgt := 21) (by decide) dL_share_21 dL_share_22 (Nat.le_of_eq (Nat.zero_add _)) (Nat.le_of_eq (Nat.zero_add _))
set_option maxHeartbeats 1000000 in
theorem hL_grade (l : Launch) (G : GT) (X : St) (x : Int32) {k f n : Nat} {post : Int32 → St → Prop} {postx : String → St → Prop} (hM : MetXI l G k yX7_grade (wsG yX7_grade cX7_grade 2 (some .char)) (rmk k f n) [.ref (ad G 715), .int x] X post postx) (hmem : ∀ (E : String) (Y : St), postx E Y → E ∈ ["java/lang/IndexOutOfBoundsException"]) : MetXI l G k yL_grade (wsW yL_grade cL_grade 4 (some .int) [(0, 9, 12, 13)]) (rmk k (f + 1) (n + 21)) [.ref (ad G 715), .int x, .ref (ad G 735)] X (lpost ["java/lang/IndexOutOfBoundsException"] id post postx) nox := by
  refine g_metW (cc := cL_grade) (maxL := 4) (ret := some .int) (hh := [(0, 9, 12, 13)]) (by decide) rfl (Nat.le_of_ble_eq_true rfl) ?_
  intro p e s m below meth c ls C hr hlk htab hW hl
  have hx := C.1.1
  have hb := C.1.2.1
  have hS : va_S (Ab G) s.heap s.heap [] := va_S.rf
  have hl : lv_has ls 4 [(0, .ref (ad G 715)), (1, .int x), (2, .ref (ad G 735))] := hl
  refine lv_aload_n hx hb dL_grade_0 rfl (lv_at hl 2 rfl) ?_
  refine lv_iconst (v := 0) hx hb dL_grade_1 (by decide) ?_
  refine lv_aload_n hx hb dL_grade_2 rfl (lv_at hl 0 rfl) ?_
  refine lv_iload_n hx hb dL_grade_3 rfl (lv_at hl 1 rfl) ?_
  refine g_cxi (vx_runV (As := [.int x]) (rest := [.int 0, .ref (ad G 735)]) C.1 hM (cwV 1 C.1.2.2.2.2 (gVW qw_1239 qw_1240 qw_1241 qw_71 qw_1242) rfl rfl rfl (by decide +kernel) ⟨Nat.le_refl _, by show 8 + (2 + 11) + n ≤ n + 21; omega⟩) (g_rFoundry C hW hS [.int x]) rfl rfl hl.1 rfl (lv_room (Nat.le_of_ble_eq_true rfl)) dL_grade_4 ⟨Nat.le_of_eq (Nat.zero_add _), Nat.le_of_eq (Nat.zero_add _)⟩) hS ?_ ?_
  · intro E9 ce9 q9 Y H9 locs9 hW9 hS9 hp h91 h92 h93
    have hE := hmem _ _ hp
    simp only [List.mem_cons, List.not_mem_nil, or_false] at hE
    subst hE
    · refine lw_catch C htab [] (0, 9, 12, 13) [] rfl (by decide +kernel) (by decide) rfl h91 h92 h93 ?_
      refine lv_astore_n hx hb dL_grade_12 rfl hl (by decide) rfl (fun ls2 hl2 => ?_)
      exact lw_num C hr hlk hW9 hS9 (i := 0) rfl hp (v := 1) (by decide) (by decide) dL_grade_13 dL_grade_14 (Nat.le_of_eq (Nat.zero_add _)) (Nat.le_of_eq (Nat.zero_add _))
  intro r Y H1 locs1 hW1 hS1 hp
  refine lv_i2l hx hb dL_grade_7 rfl ?_
  exact lw_tail (g := id) C hr hlk hW1 hS1 hp rfl dL_grade_8 dL_grade_9 (tgt := 15) (by decide) dL_grade_15 dL_grade_16 (Nat.le_of_eq (Nat.zero_add _)) (Nat.le_of_eq (Nat.zero_add _))
set_option maxHeartbeats 1000000 in
theorem hL_ingotByMass (l : Launch) (G : GT) (X : St) (x : Int32) {k f n : Nat} {post : Int32 → St → Prop} {postx : String → St → Prop} (hM : MetXI l G k yX7_ingotByMass (wsG yX7_ingotByMass cX7_ingotByMass 3 (some .int)) (rmk k f n) [.ref (ad G 715), .int x] X post postx) (hmem : ∀ (E : String) (Y : St), postx E Y → E ∈ ["java/util/NoSuchElementException"]) : MetXI l G k yL_ingotByMass (wsW yL_ingotByMass cL_ingotByMass 4 (some .int) [(0, 9, 12, 27)]) (rmk k (f + 1) (n + 22)) [.ref (ad G 715), .int x, .ref (ad G 735)] X (lpost ["java/util/NoSuchElementException"] id post postx) nox := by
  refine g_metW (cc := cL_ingotByMass) (maxL := 4) (ret := some .int) (hh := [(0, 9, 12, 27)]) (by decide) rfl (Nat.le_of_ble_eq_true rfl) ?_
  intro p e s m below meth c ls C hr hlk htab hW hl
  have hx := C.1.1
  have hb := C.1.2.1
  have hS : va_S (Ab G) s.heap s.heap [] := va_S.rf
  have hl : lv_has ls 4 [(0, .ref (ad G 715)), (1, .int x), (2, .ref (ad G 735))] := hl
  refine lv_aload_n hx hb dL_ingotByMass_0 rfl (lv_at hl 2 rfl) ?_
  refine lv_iconst (v := 0) hx hb dL_ingotByMass_1 (by decide) ?_
  refine lv_aload_n hx hb dL_ingotByMass_2 rfl (lv_at hl 0 rfl) ?_
  refine lv_iload_n hx hb dL_ingotByMass_3 rfl (lv_at hl 1 rfl) ?_
  refine g_cxi (vx_runV (As := [.int x]) (rest := [.int 0, .ref (ad G 735)]) C.1 hM (cwV 1 C.1.2.2.2.2 (gVW qw_1246 qw_1247 qw_1248 qw_71 qw_1249) rfl rfl rfl (by decide +kernel) ⟨Nat.le_refl _, by show 8 + (3 + 11) + n ≤ n + 22; omega⟩) (g_rFoundry C hW hS [.int x]) rfl rfl hl.1 rfl (lv_room (Nat.le_of_ble_eq_true rfl)) dL_ingotByMass_4 ⟨Nat.le_of_eq (Nat.zero_add _), Nat.le_of_eq (Nat.zero_add _)⟩) hS ?_ ?_
  · intro E9 ce9 q9 Y H9 locs9 hW9 hS9 hp h91 h92 h93
    have hE := hmem _ _ hp
    simp only [List.mem_cons, List.not_mem_nil, or_false] at hE
    subst hE
    · refine lw_catch C htab [] (0, 9, 12, 27) [] rfl (by decide +kernel) (by decide) rfl h91 h92 h93 ?_
      refine lv_astore_n hx hb dL_ingotByMass_12 rfl hl (by decide) rfl (fun ls2 hl2 => ?_)
      exact lw_num C hr hlk hW9 hS9 (i := 0) rfl hp (v := 1) (by decide) (by decide) dL_ingotByMass_13 dL_ingotByMass_14 (Nat.le_of_eq (Nat.zero_add _)) (Nat.le_of_eq (Nat.zero_add _))
  intro r Y H1 locs1 hW1 hS1 hp
  refine lv_i2l hx hb dL_ingotByMass_7 rfl ?_
  exact lw_tail (g := id) C hr hlk hW1 hS1 hp rfl dL_ingotByMass_8 dL_ingotByMass_9 (tgt := 15) (by decide) dL_ingotByMass_15 dL_ingotByMass_16 (Nat.le_of_eq (Nat.zero_add _)) (Nat.le_of_eq (Nat.zero_add _))
set_option maxHeartbeats 1000000 in
theorem hL_charged (l : Launch) (G : GT) (X : St) (x : Int32) {k f n : Nat} {post : Int32 → St → Prop} {postx : String → St → Prop} (hM : MetXI l G k yX7_charged (wsG yX7_charged cX7_charged 2 (some .int)) (rmk k f n) [.ref (ad G 715), .int x] X post postx) (hmem : ∀ (E : String) (Y : St), postx E Y → E ∈ ["java/lang/IllegalArgumentException"]) : MetXI l G k yL_charged (wsW yL_charged cL_charged 4 (some .int) [(0, 9, 12, 15)]) (rmk k (f + 1) (n + 21)) [.ref (ad G 715), .int x, .ref (ad G 735)] X (lpost ["java/lang/IllegalArgumentException"] id post postx) nox := by
  refine g_metW (cc := cL_charged) (maxL := 4) (ret := some .int) (hh := [(0, 9, 12, 15)]) (by decide) rfl (Nat.le_of_ble_eq_true rfl) ?_
  intro p e s m below meth c ls C hr hlk htab hW hl
  have hx := C.1.1
  have hb := C.1.2.1
  have hS : va_S (Ab G) s.heap s.heap [] := va_S.rf
  have hl : lv_has ls 4 [(0, .ref (ad G 715)), (1, .int x), (2, .ref (ad G 735))] := hl
  refine lv_aload_n hx hb dL_charged_0 rfl (lv_at hl 2 rfl) ?_
  refine lv_iconst (v := 0) hx hb dL_charged_1 (by decide) ?_
  refine lv_aload_n hx hb dL_charged_2 rfl (lv_at hl 0 rfl) ?_
  refine lv_iload_n hx hb dL_charged_3 rfl (lv_at hl 1 rfl) ?_
  refine g_cxi (vx_runV (As := [.int x]) (rest := [.int 0, .ref (ad G 735)]) C.1 hM (cwV 1 C.1.2.2.2.2 (gVW qw_1261 qw_1262 qw_1263 qw_71 qw_1264) rfl rfl rfl (by decide +kernel) ⟨Nat.le_refl _, by show 8 + (2 + 11) + n ≤ n + 21; omega⟩) (g_rFoundry C hW hS [.int x]) rfl rfl hl.1 rfl (lv_room (Nat.le_of_ble_eq_true rfl)) dL_charged_4 ⟨Nat.le_of_eq (Nat.zero_add _), Nat.le_of_eq (Nat.zero_add _)⟩) hS ?_ ?_
  · intro E9 ce9 q9 Y H9 locs9 hW9 hS9 hp h91 h92 h93
    have hE := hmem _ _ hp
    simp only [List.mem_cons, List.not_mem_nil, or_false] at hE
    subst hE
    · refine lw_catch C htab [] (0, 9, 12, 15) [] rfl (by decide +kernel) (by decide) rfl h91 h92 h93 ?_
      refine lv_astore_n hx hb dL_charged_12 rfl hl (by decide) rfl (fun ls2 hl2 => ?_)
      exact lw_num C hr hlk hW9 hS9 (i := 0) rfl hp (v := 1) (by decide) (by decide) dL_charged_13 dL_charged_14 (Nat.le_of_eq (Nat.zero_add _)) (Nat.le_of_eq (Nat.zero_add _))
  intro r Y H1 locs1 hW1 hS1 hp
  refine lv_i2l hx hb dL_charged_7 rfl ?_
  exact lw_tail (g := id) C hr hlk hW1 hS1 hp rfl dL_charged_8 dL_charged_9 (tgt := 15) (by decide) dL_charged_15 dL_charged_16 (Nat.le_of_eq (Nat.zero_add _)) (Nat.le_of_eq (Nat.zero_add _))
set_option maxHeartbeats 1000000 in
theorem hL_slag (l : Launch) (G : GT) (X : St) (x : Int32) {k f n : Nat} {post : Int32 → St → Prop} {postx : String → St → Prop} (hM : MetXI l G k yX7_slag (wsG yX7_slag cX7_slag 2 (some .int)) (rmk k f n) [.ref (ad G 715), .int x] X post postx) (hmem : ∀ (E : String) (Y : St), postx E Y → E ∈ ["java/lang/IllegalArgumentException"]) : MetXI l G k yL_slag (wsW yL_slag cL_slag 4 (some .int) [(0, 9, 12, 15)]) (rmk k (f + 1) (n + 21)) [.ref (ad G 715), .int x, .ref (ad G 735)] X (lpost ["java/lang/IllegalArgumentException"] id post postx) nox := by
  refine g_metW (cc := cL_slag) (maxL := 4) (ret := some .int) (hh := [(0, 9, 12, 15)]) (by decide) rfl (Nat.le_of_ble_eq_true rfl) ?_
  intro p e s m below meth c ls C hr hlk htab hW hl
  have hx := C.1.1
  have hb := C.1.2.1
  have hS : va_S (Ab G) s.heap s.heap [] := va_S.rf
  have hl : lv_has ls 4 [(0, .ref (ad G 715)), (1, .int x), (2, .ref (ad G 735))] := hl
  refine lv_aload_n hx hb dL_slag_0 rfl (lv_at hl 2 rfl) ?_
  refine lv_iconst (v := 0) hx hb dL_slag_1 (by decide) ?_
  refine lv_aload_n hx hb dL_slag_2 rfl (lv_at hl 0 rfl) ?_
  refine lv_iload_n hx hb dL_slag_3 rfl (lv_at hl 1 rfl) ?_
  refine g_cxi (vx_runV (As := [.int x]) (rest := [.int 0, .ref (ad G 735)]) C.1 hM (cwV 1 C.1.2.2.2.2 (gVW qw_1268 qw_1269 qw_1270 qw_71 qw_1271) rfl rfl rfl (by decide +kernel) ⟨Nat.le_refl _, by show 8 + (2 + 11) + n ≤ n + 21; omega⟩) (g_rFoundry C hW hS [.int x]) rfl rfl hl.1 rfl (lv_room (Nat.le_of_ble_eq_true rfl)) dL_slag_4 ⟨Nat.le_of_eq (Nat.zero_add _), Nat.le_of_eq (Nat.zero_add _)⟩) hS ?_ ?_
  · intro E9 ce9 q9 Y H9 locs9 hW9 hS9 hp h91 h92 h93
    have hE := hmem _ _ hp
    simp only [List.mem_cons, List.not_mem_nil, or_false] at hE
    subst hE
    · refine lw_catch C htab [] (0, 9, 12, 15) [] rfl (by decide +kernel) (by decide) rfl h91 h92 h93 ?_
      refine lv_astore_n hx hb dL_slag_12 rfl hl (by decide) rfl (fun ls2 hl2 => ?_)
      exact lw_num C hr hlk hW9 hS9 (i := 0) rfl hp (v := 1) (by decide) (by decide) dL_slag_13 dL_slag_14 (Nat.le_of_eq (Nat.zero_add _)) (Nat.le_of_eq (Nat.zero_add _))
  intro r Y H1 locs1 hW1 hS1 hp
  refine lv_i2l hx hb dL_slag_7 rfl ?_
  exact lw_tail (g := id) C hr hlk hW1 hS1 hp rfl dL_slag_8 dL_slag_9 (tgt := 15) (by decide) dL_slag_15 dL_slag_16 (Nat.le_of_eq (Nat.zero_add _)) (Nat.le_of_eq (Nat.zero_add _))
set_option maxHeartbeats 1000000 in
theorem hL_stock (l : Launch) (G : GT) (X : St) (x : Int32) {k f n : Nat} {post : Int32 → St → Prop} {postx : String → St → Prop} (hM : MetXI l G k yX7_stock (wsG yX7_stock cX7_stock 2 (some .int)) (rmk k f n) [.ref (ad G 715), .int x] X post postx) (hmem : ∀ (E : String) (Y : St), postx E Y → E ∈ ["java/lang/IllegalArgumentException"]) : MetXI l G k yL_stock (wsW yL_stock cL_stock 4 (some .int) [(0, 9, 12, 15)]) (rmk k (f + 1) (n + 21)) [.ref (ad G 715), .int x, .ref (ad G 735)] X (lpost ["java/lang/IllegalArgumentException"] id post postx) nox := by
  refine g_metW (cc := cL_stock) (maxL := 4) (ret := some .int) (hh := [(0, 9, 12, 15)]) (by decide) rfl (Nat.le_of_ble_eq_true rfl) ?_
  intro p e s m below meth c ls C hr hlk htab hW hl
  have hx := C.1.1
  have hb := C.1.2.1
  have hS : va_S (Ab G) s.heap s.heap [] := va_S.rf
  have hl : lv_has ls 4 [(0, .ref (ad G 715)), (1, .int x), (2, .ref (ad G 735))] := hl
  refine lv_aload_n hx hb dL_stock_0 rfl (lv_at hl 2 rfl) ?_
  refine lv_iconst (v := 0) hx hb dL_stock_1 (by decide) ?_
  refine lv_aload_n hx hb dL_stock_2 rfl (lv_at hl 0 rfl) ?_
  refine lv_iload_n hx hb dL_stock_3 rfl (lv_at hl 1 rfl) ?_
  refine g_cxi (vx_runV (As := [.int x]) (rest := [.int 0, .ref (ad G 735)]) C.1 hM (cwV 1 C.1.2.2.2.2 (gVW qw_1275 qw_1276 qw_1277 qw_71 qw_1278) rfl rfl rfl (by decide +kernel) ⟨Nat.le_refl _, by show 8 + (2 + 11) + n ≤ n + 21; omega⟩) (g_rFoundry C hW hS [.int x]) rfl rfl hl.1 rfl (lv_room (Nat.le_of_ble_eq_true rfl)) dL_stock_4 ⟨Nat.le_of_eq (Nat.zero_add _), Nat.le_of_eq (Nat.zero_add _)⟩) hS ?_ ?_
  · intro E9 ce9 q9 Y H9 locs9 hW9 hS9 hp h91 h92 h93
    have hE := hmem _ _ hp
    simp only [List.mem_cons, List.not_mem_nil, or_false] at hE
    subst hE
    · refine lw_catch C htab [] (0, 9, 12, 15) [] rfl (by decide +kernel) (by decide) rfl h91 h92 h93 ?_
      refine lv_astore_n hx hb dL_stock_12 rfl hl (by decide) rfl (fun ls2 hl2 => ?_)
      exact lw_num C hr hlk hW9 hS9 (i := 0) rfl hp (v := 1) (by decide) (by decide) dL_stock_13 dL_stock_14 (Nat.le_of_eq (Nat.zero_add _)) (Nat.le_of_eq (Nat.zero_add _))
  intro r Y H1 locs1 hW1 hS1 hp
  refine lv_i2l hx hb dL_stock_7 rfl ?_
  exact lw_tail (g := id) C hr hlk hW1 hS1 hp rfl dL_stock_8 dL_stock_9 (tgt := 15) (by decide) dL_stock_15 dL_stock_16 (Nat.le_of_eq (Nat.zero_add _)) (Nat.le_of_eq (Nat.zero_add _))
set_option maxHeartbeats 1000000 in
theorem hL_stockByAccounts (l : Launch) (G : GT) (X : St) (x : Int32) {k f n : Nat} {post : Int32 → St → Prop} {postx : String → St → Prop} (hM : MetXI l G k yX7_stockByAccounts (wsG yX7_stockByAccounts cX7_stockByAccounts 2 (some .int)) (rmk k f n) [.ref (ad G 715), .int x] X post postx) (hmem : ∀ (E : String) (Y : St), postx E Y → E ∈ ["java/lang/IllegalArgumentException"]) : MetXI l G k yL_stockByAccounts (wsW yL_stockByAccounts cL_stockByAccounts 4 (some .int) [(0, 9, 12, 15)]) (rmk k (f + 1) (n + 21)) [.ref (ad G 715), .int x, .ref (ad G 735)] X (lpost ["java/lang/IllegalArgumentException"] id post postx) nox := by
  refine g_metW (cc := cL_stockByAccounts) (maxL := 4) (ret := some .int) (hh := [(0, 9, 12, 15)]) (by decide) rfl (Nat.le_of_ble_eq_true rfl) ?_
  intro p e s m below meth c ls C hr hlk htab hW hl
  have hx := C.1.1
  have hb := C.1.2.1
  have hS : va_S (Ab G) s.heap s.heap [] := va_S.rf
  have hl : lv_has ls 4 [(0, .ref (ad G 715)), (1, .int x), (2, .ref (ad G 735))] := hl
  refine lv_aload_n hx hb dL_stockByAccounts_0 rfl (lv_at hl 2 rfl) ?_
  refine lv_iconst (v := 0) hx hb dL_stockByAccounts_1 (by decide) ?_
  refine lv_aload_n hx hb dL_stockByAccounts_2 rfl (lv_at hl 0 rfl) ?_
  refine lv_iload_n hx hb dL_stockByAccounts_3 rfl (lv_at hl 1 rfl) ?_
  refine g_cxi (vx_runV (As := [.int x]) (rest := [.int 0, .ref (ad G 735)]) C.1 hM (cwV 1 C.1.2.2.2.2 (gVW qw_1282 qw_1283 qw_1284 qw_71 qw_1285) rfl rfl rfl (by decide +kernel) ⟨Nat.le_refl _, by show 8 + (2 + 11) + n ≤ n + 21; omega⟩) (g_rFoundry C hW hS [.int x]) rfl rfl hl.1 rfl (lv_room (Nat.le_of_ble_eq_true rfl)) dL_stockByAccounts_4 ⟨Nat.le_of_eq (Nat.zero_add _), Nat.le_of_eq (Nat.zero_add _)⟩) hS ?_ ?_
  · intro E9 ce9 q9 Y H9 locs9 hW9 hS9 hp h91 h92 h93
    have hE := hmem _ _ hp
    simp only [List.mem_cons, List.not_mem_nil, or_false] at hE
    subst hE
    · refine lw_catch C htab [] (0, 9, 12, 15) [] rfl (by decide +kernel) (by decide) rfl h91 h92 h93 ?_
      refine lv_astore_n hx hb dL_stockByAccounts_12 rfl hl (by decide) rfl (fun ls2 hl2 => ?_)
      exact lw_num C hr hlk hW9 hS9 (i := 0) rfl hp (v := 1) (by decide) (by decide) dL_stockByAccounts_13 dL_stockByAccounts_14 (Nat.le_of_eq (Nat.zero_add _)) (Nat.le_of_eq (Nat.zero_add _))
  intro r Y H1 locs1 hW1 hS1 hp
  refine lv_i2l hx hb dL_stockByAccounts_7 rfl ?_
  exact lw_tail (g := id) C hr hlk hW1 hS1 hp rfl dL_stockByAccounts_8 dL_stockByAccounts_9 (tgt := 15) (by decide) dL_stockByAccounts_15 dL_stockByAccounts_16 (Nat.le_of_eq (Nat.zero_add _)) (Nat.le_of_eq (Nat.zero_add _))
set_option maxHeartbeats 1000000 in
theorem hL_renderFurnace (l : Launch) (G : GT) (X : St) (x : Int32) {k f n : Nat} {post : Int32 → St → Prop} {postx : String → St → Prop} (hM : MetXI l G k yX7_renderFurnace (wsG yX7_renderFurnace cX7_renderFurnace 5 (some .int)) (rmk k f n) [.ref (ad G 715), .int x] X post postx) (hmem : ∀ (E : String) (Y : St), postx E Y → E ∈ ["java/lang/IndexOutOfBoundsException"]) : MetXI l G k yL_renderFurnace (wsW yL_renderFurnace cL_renderFurnace 4 (some .int) [(0, 9, 12, 13)]) (rmk k (f + 1) (n + 24)) [.ref (ad G 715), .int x, .ref (ad G 735)] X (lpost ["java/lang/IndexOutOfBoundsException"] id post postx) nox := by
  refine g_metW (cc := cL_renderFurnace) (maxL := 4) (ret := some .int) (hh := [(0, 9, 12, 13)]) (by decide) rfl (Nat.le_of_ble_eq_true rfl) ?_
  intro p e s m below meth c ls C hr hlk htab hW hl
  have hx := C.1.1
  have hb := C.1.2.1
  have hS : va_S (Ab G) s.heap s.heap [] := va_S.rf
  have hl : lv_has ls 4 [(0, .ref (ad G 715)), (1, .int x), (2, .ref (ad G 735))] := hl
  refine lv_aload_n hx hb dL_renderFurnace_0 rfl (lv_at hl 2 rfl) ?_
  refine lv_iconst (v := 0) hx hb dL_renderFurnace_1 (by decide) ?_
  refine lv_aload_n hx hb dL_renderFurnace_2 rfl (lv_at hl 0 rfl) ?_
  refine lv_iload_n hx hb dL_renderFurnace_3 rfl (lv_at hl 1 rfl) ?_
  refine g_cxi (vx_runV (As := [.int x]) (rest := [.int 0, .ref (ad G 735)]) C.1 hM (cwV 1 C.1.2.2.2.2 (gVW qw_1315 qw_1316 qw_1317 qw_71 qw_1318) rfl rfl rfl (by decide +kernel) ⟨Nat.le_refl _, by show 8 + (5 + 11) + n ≤ n + 24; omega⟩) (g_rFoundry C hW hS [.int x]) rfl rfl hl.1 rfl (lv_room (Nat.le_of_ble_eq_true rfl)) dL_renderFurnace_4 ⟨Nat.le_of_eq (Nat.zero_add _), Nat.le_of_eq (Nat.zero_add _)⟩) hS ?_ ?_
  · intro E9 ce9 q9 Y H9 locs9 hW9 hS9 hp h91 h92 h93
    have hE := hmem _ _ hp
    simp only [List.mem_cons, List.not_mem_nil, or_false] at hE
    subst hE
    · refine lw_catch C htab [] (0, 9, 12, 13) [] rfl (by decide +kernel) (by decide) rfl h91 h92 h93 ?_
      refine lv_astore_n hx hb dL_renderFurnace_12 rfl hl (by decide) rfl (fun ls2 hl2 => ?_)
      exact lw_num C hr hlk hW9 hS9 (i := 0) rfl hp (v := 1) (by decide) (by decide) dL_renderFurnace_13 dL_renderFurnace_14 (Nat.le_of_eq (Nat.zero_add _)) (Nat.le_of_eq (Nat.zero_add _))
  intro r Y H1 locs1 hW1 hS1 hp
  refine lv_i2l hx hb dL_renderFurnace_7 rfl ?_
  exact lw_tail (g := id) C hr hlk hW1 hS1 hp rfl dL_renderFurnace_8 dL_renderFurnace_9 (tgt := 15) (by decide) dL_renderFurnace_15 dL_renderFurnace_16 (Nat.le_of_eq (Nat.zero_add _)) (Nat.le_of_eq (Nat.zero_add _))
set_option maxHeartbeats 1000000 in
theorem hL_outputAt (l : Launch) (G : GT) (X : St) (x : Int32) {k f n : Nat} {post : Int32 → St → Prop} {postx : String → St → Prop} (hM : MetXI l G k yX7_outputAt (wsG yX7_outputAt cX7_outputAt 2 (some .char)) (rmk k f n) [.ref (ad G 715), .int x] X post postx) (hmem : ∀ (E : String) (Y : St), postx E Y → E ∈ ["java/lang/IndexOutOfBoundsException"]) : MetXI l G k yL_outputAt (wsW yL_outputAt cL_outputAt 4 (some .int) [(0, 9, 12, 13)]) (rmk k (f + 1) (n + 21)) [.ref (ad G 715), .int x, .ref (ad G 735)] X (lpost ["java/lang/IndexOutOfBoundsException"] id post postx) nox := by
  refine g_metW (cc := cL_outputAt) (maxL := 4) (ret := some .int) (hh := [(0, 9, 12, 13)]) (by decide) rfl (Nat.le_of_ble_eq_true rfl) ?_
  intro p e s m below meth c ls C hr hlk htab hW hl
  have hx := C.1.1
  have hb := C.1.2.1
  have hS : va_S (Ab G) s.heap s.heap [] := va_S.rf
  have hl : lv_has ls 4 [(0, .ref (ad G 715)), (1, .int x), (2, .ref (ad G 735))] := hl
  refine lv_aload_n hx hb dL_outputAt_0 rfl (lv_at hl 2 rfl) ?_
  refine lv_iconst (v := 0) hx hb dL_outputAt_1 (by decide) ?_
  refine lv_aload_n hx hb dL_outputAt_2 rfl (lv_at hl 0 rfl) ?_
  refine lv_iload_n hx hb dL_outputAt_3 rfl (lv_at hl 1 rfl) ?_
  refine g_cxi (vx_runV (As := [.int x]) (rest := [.int 0, .ref (ad G 735)]) C.1 hM (cwV 1 C.1.2.2.2.2 (gVW qw_1323 qw_1324 qw_1325 qw_71 qw_1326) rfl rfl rfl (by decide +kernel) ⟨Nat.le_refl _, by show 8 + (2 + 11) + n ≤ n + 21; omega⟩) (g_rFoundry C hW hS [.int x]) rfl rfl hl.1 rfl (lv_room (Nat.le_of_ble_eq_true rfl)) dL_outputAt_4 ⟨Nat.le_of_eq (Nat.zero_add _), Nat.le_of_eq (Nat.zero_add _)⟩) hS ?_ ?_
  · intro E9 ce9 q9 Y H9 locs9 hW9 hS9 hp h91 h92 h93
    have hE := hmem _ _ hp
    simp only [List.mem_cons, List.not_mem_nil, or_false] at hE
    subst hE
    · refine lw_catch C htab [] (0, 9, 12, 13) [] rfl (by decide +kernel) (by decide) rfl h91 h92 h93 ?_
      refine lv_astore_n hx hb dL_outputAt_12 rfl hl (by decide) rfl (fun ls2 hl2 => ?_)
      exact lw_num C hr hlk hW9 hS9 (i := 0) rfl hp (v := 1) (by decide) (by decide) dL_outputAt_13 dL_outputAt_14 (Nat.le_of_eq (Nat.zero_add _)) (Nat.le_of_eq (Nat.zero_add _))
  intro r Y H1 locs1 hW1 hS1 hp
  refine lv_i2l hx hb dL_outputAt_7 rfl ?_
  exact lw_tail (g := id) C hr hlk hW1 hS1 hp rfl dL_outputAt_8 dL_outputAt_9 (tgt := 15) (by decide) dL_outputAt_15 dL_outputAt_16 (Nat.le_of_eq (Nat.zero_add _)) (Nat.le_of_eq (Nat.zero_add _))
set_option maxHeartbeats 1000000 in
theorem hL_type (l : Launch) (G : GT) (X : St) (x : Int32) {k f n : Nat} {post : Int32 → St → Prop} {postx : String → St → Prop} (hM : MetXI l G k yX7_type (wsG yX7_type cX7_type 2 (some .int)) (rmk k f n) [.ref (ad G 715), .int x] X post postx) (hmem : ∀ (E : String) (Y : St), postx E Y → E ∈ ["java/lang/IllegalArgumentException", "java/lang/IllegalStateException"]) : MetXI l G k yL_type (wsW yL_type cL_type 4 (some .int) [(0, 9, 12, 15), (0, 9, 15, 29)]) (rmk k (f + 1) (n + 21)) [.ref (ad G 715), .int x, .ref (ad G 735)] X (lpost ["java/lang/IllegalArgumentException", "java/lang/IllegalStateException"] id post postx) nox := by
  refine g_metW (cc := cL_type) (maxL := 4) (ret := some .int) (hh := [(0, 9, 12, 15), (0, 9, 15, 29)]) (by decide) rfl (Nat.le_of_ble_eq_true rfl) ?_
  intro p e s m below meth c ls C hr hlk htab hW hl
  have hx := C.1.1
  have hb := C.1.2.1
  have hS : va_S (Ab G) s.heap s.heap [] := va_S.rf
  have hl : lv_has ls 4 [(0, .ref (ad G 715)), (1, .int x), (2, .ref (ad G 735))] := hl
  refine lv_aload_n hx hb dL_type_0 rfl (lv_at hl 2 rfl) ?_
  refine lv_iconst (v := 0) hx hb dL_type_1 (by decide) ?_
  refine lv_aload_n hx hb dL_type_2 rfl (lv_at hl 0 rfl) ?_
  refine lv_iload_n hx hb dL_type_3 rfl (lv_at hl 1 rfl) ?_
  refine g_cxi (vx_runV (As := [.int x]) (rest := [.int 0, .ref (ad G 735)]) C.1 hM (cwV 1 C.1.2.2.2.2 (gVW qw_1340 qw_1341 qw_1342 qw_71 qw_1343) rfl rfl rfl (by decide +kernel) ⟨Nat.le_refl _, by show 8 + (2 + 11) + n ≤ n + 21; omega⟩) (g_rFoundry C hW hS [.int x]) rfl rfl hl.1 rfl (lv_room (Nat.le_of_ble_eq_true rfl)) dL_type_4 ⟨Nat.le_of_eq (Nat.zero_add _), Nat.le_of_eq (Nat.zero_add _)⟩) hS ?_ ?_
  · intro E9 ce9 q9 Y H9 locs9 hW9 hS9 hp h91 h92 h93
    have hE := hmem _ _ hp
    simp only [List.mem_cons, List.not_mem_nil, or_false] at hE
    rcases hE with rfl | rfl
    · refine lw_catch C htab [] (0, 9, 12, 15) [(0, 9, 15, 29)] rfl (by decide +kernel) (by decide) rfl h91 h92 h93 ?_
      refine lv_astore_n hx hb dL_type_12 rfl hl (by decide) rfl (fun ls2 hl2 => ?_)
      exact lw_num C hr hlk hW9 hS9 (i := 0) rfl hp (v := 1) (by decide) (by decide) dL_type_13 dL_type_14 (Nat.le_of_eq (Nat.zero_add _)) (Nat.le_of_eq (Nat.zero_add _))
    · refine lw_catch C htab [(0, 9, 12, 15)] (0, 9, 15, 29) [] rfl (by decide +kernel) (by decide) rfl h91 h92 h93 ?_
      refine lv_astore_n hx hb dL_type_15 rfl hl (by decide) rfl (fun ls2 hl2 => ?_)
      exact lw_num C hr hlk hW9 hS9 (i := 1) rfl hp (v := 2) (by decide) (by decide) dL_type_16 dL_type_17 (Nat.le_of_eq (Nat.zero_add _)) (Nat.le_of_eq (Nat.zero_add _))
  intro r Y H1 locs1 hW1 hS1 hp
  refine lv_i2l hx hb dL_type_7 rfl ?_
  exact lw_tail (g := id) C hr hlk hW1 hS1 hp rfl dL_type_8 dL_type_9 (tgt := 18) (by decide) dL_type_18 dL_type_19 (Nat.le_of_eq (Nat.zero_add _)) (Nat.le_of_eq (Nat.zero_add _))
set_option maxHeartbeats 1000000 in
theorem hL_runScript (l : Launch) (G : GT) (X : St) {k f n : Nat} {post : Int32 → St → Prop} {postx : String → St → Prop} (hM : MetXI l G k yX7_runScript (wsG yX7_runScript cX7_runScript 3 (some .int)) (rmk k f n) [.ref (ad G 715)] X post postx) (hmem : ∀ (E : String) (Y : St), postx E Y → E ∈ ["java/lang/IllegalArgumentException", "java/lang/IllegalStateException"]) : MetXI l G k yL_runScript (wsW yL_runScript cL_runScript 3 (some .int) [(0, 8, 11, 15), (0, 8, 14, 29)]) (rmk k (f + 1) (n + 22)) [.ref (ad G 715), .ref (ad G 735)] X (lpost ["java/lang/IllegalArgumentException", "java/lang/IllegalStateException"] id post postx) nox := by
  refine g_metW (cc := cL_runScript) (maxL := 3) (ret := some .int) (hh := [(0, 8, 11, 15), (0, 8, 14, 29)]) (by decide) rfl (Nat.le_of_ble_eq_true rfl) ?_
  intro p e s m below meth c ls C hr hlk htab hW hl
  have hx := C.1.1
  have hb := C.1.2.1
  have hS : va_S (Ab G) s.heap s.heap [] := va_S.rf
  have hl : lv_has ls 3 [(0, .ref (ad G 715)), (1, .ref (ad G 735))] := hl
  refine lv_aload_n hx hb dL_runScript_0 rfl (lv_at hl 1 rfl) ?_
  refine lv_iconst (v := 0) hx hb dL_runScript_1 (by decide) ?_
  refine lv_aload_n hx hb dL_runScript_2 rfl (lv_at hl 0 rfl) ?_
  refine g_cxi (vx_runV (As := []) (rest := [.int 0, .ref (ad G 735)]) C.1 hM (cwV 0 C.1.2.2.2.2 (gVW qw_1351 qw_1352 qw_1353 qw_71 qw_1354) rfl rfl rfl (by decide +kernel) ⟨Nat.le_refl _, by show 8 + (3 + 11) + n ≤ n + 22; omega⟩) (g_rFoundry C hW hS []) rfl rfl hl.1 rfl (lv_room (Nat.le_of_ble_eq_true rfl)) dL_runScript_3 ⟨Nat.le_of_eq (Nat.zero_add _), Nat.le_of_eq (Nat.zero_add _)⟩) hS ?_ ?_
  · intro E9 ce9 q9 Y H9 locs9 hW9 hS9 hp h91 h92 h93
    have hE := hmem _ _ hp
    simp only [List.mem_cons, List.not_mem_nil, or_false] at hE
    rcases hE with rfl | rfl
    · refine lw_catch C htab [] (0, 8, 11, 15) [(0, 8, 14, 29)] rfl (by decide +kernel) (by decide) rfl h91 h92 h93 ?_
      refine lv_astore_n hx hb dL_runScript_11 rfl hl (by decide) rfl (fun ls2 hl2 => ?_)
      exact lw_num C hr hlk hW9 hS9 (i := 0) rfl hp (v := 1) (by decide) (by decide) dL_runScript_12 dL_runScript_13 (Nat.le_of_eq (Nat.zero_add _)) (Nat.le_of_eq (Nat.zero_add _))
    · refine lw_catch C htab [(0, 8, 11, 15)] (0, 8, 14, 29) [] rfl (by decide +kernel) (by decide) rfl h91 h92 h93 ?_
      refine lv_astore_n hx hb dL_runScript_14 rfl hl (by decide) rfl (fun ls2 hl2 => ?_)
      exact lw_num C hr hlk hW9 hS9 (i := 1) rfl hp (v := 2) (by decide) (by decide) dL_runScript_15 dL_runScript_16 (Nat.le_of_eq (Nat.zero_add _)) (Nat.le_of_eq (Nat.zero_add _))
  intro r Y H1 locs1 hW1 hS1 hp
  refine lv_i2l hx hb dL_runScript_6 rfl ?_
  exact lw_tail (g := id) C hr hlk hW1 hS1 hp rfl dL_runScript_7 dL_runScript_8 (tgt := 17) (by decide) dL_runScript_17 dL_runScript_18 (Nat.le_of_eq (Nat.zero_add _)) (Nat.le_of_eq (Nat.zero_add _))
set_option maxHeartbeats 1000000 in
theorem hL_errorPosition (l : Launch) (G : GT) (X : St) {k f n : Nat} {post : Int32 → St → Prop} {postx : String → St → Prop} (hM : MetXI l G k yX7_errorPosition (wsG yX7_errorPosition cX7_errorPosition 1 (some .int)) (rmk k f n) [.ref (ad G 715)] X post postx) (hmem : ∀ (E : String) (Y : St), postx E Y → E ∈ ["java/util/NoSuchElementException"]) : MetXI l G k yL_errorPosition (wsW yL_errorPosition cL_errorPosition 3 (some .int) [(0, 8, 11, 27)]) (rmk k (f + 1) (n + 20)) [.ref (ad G 715), .ref (ad G 735)] X (lpost ["java/util/NoSuchElementException"] id post postx) nox := by
  refine g_metW (cc := cL_errorPosition) (maxL := 3) (ret := some .int) (hh := [(0, 8, 11, 27)]) (by decide) rfl (Nat.le_of_ble_eq_true rfl) ?_
  intro p e s m below meth c ls C hr hlk htab hW hl
  have hx := C.1.1
  have hb := C.1.2.1
  have hS : va_S (Ab G) s.heap s.heap [] := va_S.rf
  have hl : lv_has ls 3 [(0, .ref (ad G 715)), (1, .ref (ad G 735))] := hl
  refine lv_aload_n hx hb dL_errorPosition_0 rfl (lv_at hl 1 rfl) ?_
  refine lv_iconst (v := 0) hx hb dL_errorPosition_1 (by decide) ?_
  refine lv_aload_n hx hb dL_errorPosition_2 rfl (lv_at hl 0 rfl) ?_
  refine g_cxi (vx_runV (As := []) (rest := [.int 0, .ref (ad G 735)]) C.1 hM (cwV 0 C.1.2.2.2.2 (gVW qw_1430 qw_1431 qw_1432 qw_71 qw_1433) rfl rfl rfl (by decide +kernel) ⟨Nat.le_refl _, by show 8 + (1 + 11) + n ≤ n + 20; omega⟩) (g_rFoundry C hW hS []) rfl rfl hl.1 rfl (lv_room (Nat.le_of_ble_eq_true rfl)) dL_errorPosition_3 ⟨Nat.le_of_eq (Nat.zero_add _), Nat.le_of_eq (Nat.zero_add _)⟩) hS ?_ ?_
  · intro E9 ce9 q9 Y H9 locs9 hW9 hS9 hp h91 h92 h93
    have hE := hmem _ _ hp
    simp only [List.mem_cons, List.not_mem_nil, or_false] at hE
    subst hE
    · refine lw_catch C htab [] (0, 8, 11, 27) [] rfl (by decide +kernel) (by decide) rfl h91 h92 h93 ?_
      refine lv_astore_n hx hb dL_errorPosition_11 rfl hl (by decide) rfl (fun ls2 hl2 => ?_)
      exact lw_num C hr hlk hW9 hS9 (i := 0) rfl hp (v := 1) (by decide) (by decide) dL_errorPosition_12 dL_errorPosition_13 (Nat.le_of_eq (Nat.zero_add _)) (Nat.le_of_eq (Nat.zero_add _))
  intro r Y H1 locs1 hW1 hS1 hp
  refine lv_i2l hx hb dL_errorPosition_6 rfl ?_
  exact lw_tail (g := id) C hr hlk hW1 hS1 hp rfl dL_errorPosition_7 dL_errorPosition_8 (tgt := 14) (by decide) dL_errorPosition_14 dL_errorPosition_15 (Nat.le_of_eq (Nat.zero_add _)) (Nat.le_of_eq (Nat.zero_add _))
set_option maxHeartbeats 1000000 in
theorem hL_failedCommand (l : Launch) (G : GT) (X : St) {k f n : Nat} {post : Int32 → St → Prop} {postx : String → St → Prop} (hM : MetXI l G k yX7_failedCommand (wsG yX7_failedCommand cX7_failedCommand 1 (some .int)) (rmk k f n) [.ref (ad G 715)] X post postx) (hmem : ∀ (E : String) (Y : St), postx E Y → E ∈ ["java/util/NoSuchElementException"]) : MetXI l G k yL_failedCommand (wsW yL_failedCommand cL_failedCommand 3 (some .int) [(0, 8, 11, 27)]) (rmk k (f + 1) (n + 20)) [.ref (ad G 715), .ref (ad G 735)] X (lpost ["java/util/NoSuchElementException"] id post postx) nox := by
  refine g_metW (cc := cL_failedCommand) (maxL := 3) (ret := some .int) (hh := [(0, 8, 11, 27)]) (by decide) rfl (Nat.le_of_ble_eq_true rfl) ?_
  intro p e s m below meth c ls C hr hlk htab hW hl
  have hx := C.1.1
  have hb := C.1.2.1
  have hS : va_S (Ab G) s.heap s.heap [] := va_S.rf
  have hl : lv_has ls 3 [(0, .ref (ad G 715)), (1, .ref (ad G 735))] := hl
  refine lv_aload_n hx hb dL_failedCommand_0 rfl (lv_at hl 1 rfl) ?_
  refine lv_iconst (v := 0) hx hb dL_failedCommand_1 (by decide) ?_
  refine lv_aload_n hx hb dL_failedCommand_2 rfl (lv_at hl 0 rfl) ?_
  refine g_cxi (vx_runV (As := []) (rest := [.int 0, .ref (ad G 735)]) C.1 hM (cwV 0 C.1.2.2.2.2 (gVW qw_1437 qw_1438 qw_1439 qw_71 qw_1440) rfl rfl rfl (by decide +kernel) ⟨Nat.le_refl _, by show 8 + (1 + 11) + n ≤ n + 20; omega⟩) (g_rFoundry C hW hS []) rfl rfl hl.1 rfl (lv_room (Nat.le_of_ble_eq_true rfl)) dL_failedCommand_3 ⟨Nat.le_of_eq (Nat.zero_add _), Nat.le_of_eq (Nat.zero_add _)⟩) hS ?_ ?_
  · intro E9 ce9 q9 Y H9 locs9 hW9 hS9 hp h91 h92 h93
    have hE := hmem _ _ hp
    simp only [List.mem_cons, List.not_mem_nil, or_false] at hE
    subst hE
    · refine lw_catch C htab [] (0, 8, 11, 27) [] rfl (by decide +kernel) (by decide) rfl h91 h92 h93 ?_
      refine lv_astore_n hx hb dL_failedCommand_11 rfl hl (by decide) rfl (fun ls2 hl2 => ?_)
      exact lw_num C hr hlk hW9 hS9 (i := 0) rfl hp (v := 1) (by decide) (by decide) dL_failedCommand_12 dL_failedCommand_13 (Nat.le_of_eq (Nat.zero_add _)) (Nat.le_of_eq (Nat.zero_add _))
  intro r Y H1 locs1 hW1 hS1 hp
  refine lv_i2l hx hb dL_failedCommand_6 rfl ?_
  exact lw_tail (g := id) C hr hlk hW1 hS1 hp rfl dL_failedCommand_7 dL_failedCommand_8 (tgt := 14) (by decide) dL_failedCommand_14 dL_failedCommand_15 (Nat.le_of_eq (Nat.zero_add _)) (Nat.le_of_eq (Nat.zero_add _))
set_option maxHeartbeats 1000000 in
theorem hL_undo (l : Launch) (G : GT) (X : St) {k f n : Nat} {post : Int32 → St → Prop} {postx : String → St → Prop} (hM : MetXI l G k yX7_undo (wsG yX7_undo cX7_undo 1 (some .int)) (rmk k f n) [.ref (ad G 715)] X post postx) (hmem : ∀ (E : String) (Y : St), postx E Y → E ∈ ["java/util/NoSuchElementException"]) : MetXI l G k yL_undo (wsW yL_undo cL_undo 3 (some .int) [(0, 8, 11, 27)]) (rmk k (f + 1) (n + 20)) [.ref (ad G 715), .ref (ad G 735)] X (lpost ["java/util/NoSuchElementException"] id post postx) nox := by
  refine g_metW (cc := cL_undo) (maxL := 3) (ret := some .int) (hh := [(0, 8, 11, 27)]) (by decide) rfl (Nat.le_of_ble_eq_true rfl) ?_
  intro p e s m below meth c ls C hr hlk htab hW hl
  have hx := C.1.1
  have hb := C.1.2.1
  have hS : va_S (Ab G) s.heap s.heap [] := va_S.rf
  have hl : lv_has ls 3 [(0, .ref (ad G 715)), (1, .ref (ad G 735))] := hl
  refine lv_aload_n hx hb dL_undo_0 rfl (lv_at hl 1 rfl) ?_
  refine lv_iconst (v := 0) hx hb dL_undo_1 (by decide) ?_
  refine lv_aload_n hx hb dL_undo_2 rfl (lv_at hl 0 rfl) ?_
  refine g_cxi (vx_runV (As := []) (rest := [.int 0, .ref (ad G 735)]) C.1 hM (cwV 0 C.1.2.2.2.2 (gVW qw_1444 qw_1445 qw_1446 qw_71 qw_1447) rfl rfl rfl (by decide +kernel) ⟨Nat.le_refl _, by show 8 + (1 + 11) + n ≤ n + 20; omega⟩) (g_rFoundry C hW hS []) rfl rfl hl.1 rfl (lv_room (Nat.le_of_ble_eq_true rfl)) dL_undo_3 ⟨Nat.le_of_eq (Nat.zero_add _), Nat.le_of_eq (Nat.zero_add _)⟩) hS ?_ ?_
  · intro E9 ce9 q9 Y H9 locs9 hW9 hS9 hp h91 h92 h93
    have hE := hmem _ _ hp
    simp only [List.mem_cons, List.not_mem_nil, or_false] at hE
    subst hE
    · refine lw_catch C htab [] (0, 8, 11, 27) [] rfl (by decide +kernel) (by decide) rfl h91 h92 h93 ?_
      refine lv_astore_n hx hb dL_undo_11 rfl hl (by decide) rfl (fun ls2 hl2 => ?_)
      exact lw_num C hr hlk hW9 hS9 (i := 0) rfl hp (v := 1) (by decide) (by decide) dL_undo_12 dL_undo_13 (Nat.le_of_eq (Nat.zero_add _)) (Nat.le_of_eq (Nat.zero_add _))
  intro r Y H1 locs1 hW1 hS1 hp
  refine lv_i2l hx hb dL_undo_6 rfl ?_
  exact lw_tail (g := id) C hr hlk hW1 hS1 hp rfl dL_undo_7 dL_undo_8 (tgt := 14) (by decide) dL_undo_14 dL_undo_15 (Nat.le_of_eq (Nat.zero_add _)) (Nat.le_of_eq (Nat.zero_add _))
set_option maxHeartbeats 1000000 in
theorem hL_restore (l : Launch) (G : GT) (X : St) {k f n : Nat} {post : Int32 → St → Prop} {postx : String → St → Prop} (hM : MetXI l G k yX7_restore (wsG yX7_restore cX7_restore 1 (some .int)) (rmk k f n) [.ref (ad G 715)] X post postx) (hmem : ∀ (E : String) (Y : St), postx E Y → E ∈ ["java/lang/IllegalStateException"]) : MetXI l G k yL_restore (wsW yL_restore cL_restore 3 (some .int) [(0, 8, 11, 29)]) (rmk k (f + 1) (n + 20)) [.ref (ad G 715), .ref (ad G 735)] X (lpost ["java/lang/IllegalStateException"] id post postx) nox := by
  refine g_metW (cc := cL_restore) (maxL := 3) (ret := some .int) (hh := [(0, 8, 11, 29)]) (by decide) rfl (Nat.le_of_ble_eq_true rfl) ?_
  intro p e s m below meth c ls C hr hlk htab hW hl
  have hx := C.1.1
  have hb := C.1.2.1
  have hS : va_S (Ab G) s.heap s.heap [] := va_S.rf
  have hl : lv_has ls 3 [(0, .ref (ad G 715)), (1, .ref (ad G 735))] := hl
  refine lv_aload_n hx hb dL_restore_0 rfl (lv_at hl 1 rfl) ?_
  refine lv_iconst (v := 0) hx hb dL_restore_1 (by decide) ?_
  refine lv_aload_n hx hb dL_restore_2 rfl (lv_at hl 0 rfl) ?_
  refine g_cxi (vx_runV (As := []) (rest := [.int 0, .ref (ad G 735)]) C.1 hM (cwV 0 C.1.2.2.2.2 (gVW qw_1456 qw_1457 qw_1458 qw_71 qw_1459) rfl rfl rfl (by decide +kernel) ⟨Nat.le_refl _, by show 8 + (1 + 11) + n ≤ n + 20; omega⟩) (g_rFoundry C hW hS []) rfl rfl hl.1 rfl (lv_room (Nat.le_of_ble_eq_true rfl)) dL_restore_3 ⟨Nat.le_of_eq (Nat.zero_add _), Nat.le_of_eq (Nat.zero_add _)⟩) hS ?_ ?_
  · intro E9 ce9 q9 Y H9 locs9 hW9 hS9 hp h91 h92 h93
    have hE := hmem _ _ hp
    simp only [List.mem_cons, List.not_mem_nil, or_false] at hE
    subst hE
    · refine lw_catch C htab [] (0, 8, 11, 29) [] rfl (by decide +kernel) (by decide) rfl h91 h92 h93 ?_
      refine lv_astore_n hx hb dL_restore_11 rfl hl (by decide) rfl (fun ls2 hl2 => ?_)
      exact lw_num C hr hlk hW9 hS9 (i := 0) rfl hp (v := 1) (by decide) (by decide) dL_restore_12 dL_restore_13 (Nat.le_of_eq (Nat.zero_add _)) (Nat.le_of_eq (Nat.zero_add _))
  intro r Y H1 locs1 hW1 hS1 hp
  refine lv_i2l hx hb dL_restore_6 rfl ?_
  exact lw_tail (g := id) C hr hlk hW1 hS1 hp rfl dL_restore_7 dL_restore_8 (tgt := 14) (by decide) dL_restore_14 dL_restore_15 (Nat.le_of_eq (Nat.zero_add _)) (Nat.le_of_eq (Nat.zero_add _))
