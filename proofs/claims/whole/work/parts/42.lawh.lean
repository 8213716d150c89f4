/-! The law's helpers, one by one: for any contract of the class's method. -/
set_option maxHeartbeats 1000000 in
theorem hL_charge (l : Launch) (G : GT) (X : St) (x y z : Int32) {k f n : Nat} {post : Int32 → St → Prop} {postx : String → St → Prop} (hM : MetXI l G k yX7_charge (wsG yX7_charge cX7_charge 4 (some .int)) (rmk k f n) [.ref (ad G 715), .int x, .int y, .int z] X post postx) (hmem : ∀ (E : String) (Y : St), postx E Y → E ∈ ["java/lang/IndexOutOfBoundsException", "java/lang/IllegalArgumentException", "java/lang/UnsupportedOperationException"]) : MetXI l G k yL_charge (wsW yL_charge cL_charge 6 (some .int) [(0, 12, 15, 13), (0, 12, 19, 15), (0, 12, 23, 17)]) (rmk k (f + 1) (n + 23)) [.ref (ad G 715), .int x, .int y, .int z, .ref (ad G 735)] X (lpost ["java/lang/IndexOutOfBoundsException", "java/lang/IllegalArgumentException", "java/lang/UnsupportedOperationException"] id post postx) nox := by
  refine g_metW (cc := cL_charge) (maxL := 6) (ret := some .int) (hh := [(0, 12, 15, 13), (0, 12, 19, 15), (0, 12, 23, 17)]) (by decide) rfl (Nat.le_of_ble_eq_true rfl) ?_
  intro p e s m below meth c ls C hr hlk htab hW hl
  have hx := C.1.1
  have hb := C.1.2.1
  have hS : va_S (Ab G) s.heap s.heap [] := va_S.rf
  have hl : lv_has ls 6 [(0, .ref (ad G 715)), (1, .int x), (2, .int y), (3, .int z), (4, .ref (ad G 735))] := hl
  refine lv_aload hx hb dL_charge_0 (lv_at hl 4 rfl) ?_
  refine lv_iconst (v := 0) hx hb dL_charge_2 (by decide) ?_
  refine lv_aload_n hx hb dL_charge_3 rfl (lv_at hl 0 rfl) ?_
  refine lv_iload_n hx hb dL_charge_4 rfl (lv_at hl 1 rfl) ?_
  refine lv_iload_n hx hb dL_charge_5 rfl (lv_at hl 2 rfl) ?_
  refine lv_iload_n hx hb dL_charge_6 rfl (lv_at hl 3 rfl) ?_
  refine g_cxi (vx_runV (As := [.int x, .int y, .int z]) (rest := [.int 0, .ref (ad G 735)]) C.1 hM (cwV 3 C.1.2.2.2.2 (gVW qw_794 qw_795 qw_796 qw_71 qw_797) rfl rfl rfl (by decide +kernel) ⟨Nat.le_refl _, by show 8 + (4 + 11) + n ≤ n + 23; omega⟩) (g_rFoundry C hW hS [.int x, .int y, .int z]) rfl rfl hl.1 rfl (lv_room (Nat.le_of_ble_eq_true rfl)) dL_charge_7 ⟨Nat.le_of_eq (Nat.zero_add _), Nat.le_of_eq (Nat.zero_add _)⟩) hS ?_ ?_
  · intro E9 ce9 q9 Y H9 locs9 hW9 hS9 hp h91 h92 h93
    have hE := hmem _ _ hp
    simp only [List.mem_cons, List.not_mem_nil, or_false] at hE
    rcases hE with rfl | rfl | rfl
    · refine lw_catch C htab [] (0, 12, 15, 13) [(0, 12, 19, 15), (0, 12, 23, 17)] rfl (by decide +kernel) (by decide) rfl h91 h92 h93 ?_
      refine lv_astore hx hb dL_charge_15 hl (by decide) rfl (fun ls2 hl2 => ?_)
      exact lw_num C hr hlk hW9 hS9 (i := 0) rfl hp (v := 1) (by decide) (by decide) dL_charge_17 dL_charge_18 (Nat.le_of_eq (Nat.zero_add _)) (Nat.le_of_eq (Nat.zero_add _))
    · refine lw_catch C htab [(0, 12, 15, 13)] (0, 12, 19, 15) [(0, 12, 23, 17)] rfl (by decide +kernel) (by decide) rfl h91 h92 h93 ?_
      refine lv_astore hx hb dL_charge_19 hl (by decide) rfl (fun ls2 hl2 => ?_)
      exact lw_num C hr hlk hW9 hS9 (i := 1) rfl hp (v := 2) (by decide) (by decide) dL_charge_21 dL_charge_22 (Nat.le_of_eq (Nat.zero_add _)) (Nat.le_of_eq (Nat.zero_add _))
    · refine lw_catch C htab [(0, 12, 15, 13), (0, 12, 19, 15)] (0, 12, 23, 17) [] rfl (by decide +kernel) (by decide) rfl h91 h92 h93 ?_
      refine lv_astore hx hb dL_charge_23 hl (by decide) rfl (fun ls2 hl2 => ?_)
      exact lw_num C hr hlk hW9 hS9 (i := 2) rfl hp (v := 3) (by decide) (by decide) dL_charge_25 dL_charge_26 (Nat.le_of_eq (Nat.zero_add _)) (Nat.le_of_eq (Nat.zero_add _))
  intro r Y H1 locs1 hW1 hS1 hp
  refine lv_i2l hx hb dL_charge_10 rfl ?_
  exact lw_tail (g := id) C hr hlk hW1 hS1 hp dL_charge_11 dL_charge_12 (tgt := 27) (by decide) dL_charge_27 dL_charge_28 (Nat.le_of_eq (Nat.zero_add _)) (Nat.le_of_eq (Nat.zero_add _))
set_option maxHeartbeats 1000000 in
theorem hL_furnaceMass (l : Launch) (G : GT) (X : St) (x y : Int32) {k f n : Nat} {post : Int32 → St → Prop} {postx : String → St → Prop} (hM : MetXI l G k yX7_furnaceMass (wsG yX7_furnaceMass cX7_furnaceMass 3 (some .int)) (rmk k f n) [.ref (ad G 715), .int x, .int y] X post postx) (hmem : ∀ (E : String) (Y : St), postx E Y → E ∈ ["java/lang/IndexOutOfBoundsException", "java/lang/IllegalArgumentException"]) : MetXI l G k yL_furnaceMass (wsW yL_furnaceMass cL_furnaceMass 5 (some .int) [(0, 10, 13, 13), (0, 10, 17, 15)]) (rmk k (f + 1) (n + 22)) [.ref (ad G 715), .int x, .int y, .ref (ad G 735)] X (lpost ["java/lang/IndexOutOfBoundsException", "java/lang/IllegalArgumentException"] id post postx) nox := by
  refine g_metW (cc := cL_furnaceMass) (maxL := 5) (ret := some .int) (hh := [(0, 10, 13, 13), (0, 10, 17, 15)]) (by decide) rfl (Nat.le_of_ble_eq_true rfl) ?_
  intro p e s m below meth c ls C hr hlk htab hW hl
  have hx := C.1.1
  have hb := C.1.2.1
  have hS : va_S (Ab G) s.heap s.heap [] := va_S.rf
  have hl : lv_has ls 5 [(0, .ref (ad G 715)), (1, .int x), (2, .int y), (3, .ref (ad G 735))] := hl
  refine lv_aload_n hx hb dL_furnaceMass_0 rfl (lv_at hl 3 rfl) ?_
  refine lv_iconst (v := 0) hx hb dL_furnaceMass_1 (by decide) ?_
  refine lv_aload_n hx hb dL_furnaceMass_2 rfl (lv_at hl 0 rfl) ?_
  refine lv_iload_n hx hb dL_furnaceMass_3 rfl (lv_at hl 1 rfl) ?_
  refine lv_iload_n hx hb dL_furnaceMass_4 rfl (lv_at hl 2 rfl) ?_
  refine g_cxi (vx_runV (As := [.int x, .int y]) (rest := [.int 0, .ref (ad G 735)]) C.1 hM (cwV 2 C.1.2.2.2.2 (gVW qw_1074 qw_1075 qw_1076 qw_71 qw_1077) rfl rfl rfl (by decide +kernel) ⟨Nat.le_refl _, by show 8 + (3 + 11) + n ≤ n + 22; omega⟩) (g_rFoundry C hW hS [.int x, .int y]) rfl rfl hl.1 rfl (lv_room (Nat.le_of_ble_eq_true rfl)) dL_furnaceMass_5 ⟨Nat.le_of_eq (Nat.zero_add _), Nat.le_of_eq (Nat.zero_add _)⟩) hS ?_ ?_
  · intro E9 ce9 q9 Y H9 locs9 hW9 hS9 hp h91 h92 h93
    have hE := hmem _ _ hp
    simp only [List.mem_cons, List.not_mem_nil, or_false] at hE
    rcases hE with rfl | rfl
    · refine lw_catch C htab [] (0, 10, 13, 13) [(0, 10, 17, 15)] rfl (by decide +kernel) (by decide) rfl h91 h92 h93 ?_
      refine lv_astore hx hb dL_furnaceMass_13 hl (by decide) rfl (fun ls2 hl2 => ?_)
      exact lw_num C hr hlk hW9 hS9 (i := 0) rfl hp (v := 1) (by decide) (by decide) dL_furnaceMass_15 dL_furnaceMass_16 (Nat.le_of_eq (Nat.zero_add _)) (Nat.le_of_eq (Nat.zero_add _))
    · refine lw_catch C htab [(0, 10, 13, 13)] (0, 10, 17, 15) [] rfl (by decide +kernel) (by decide) rfl h91 h92 h93 ?_
      refine lv_astore hx hb dL_furnaceMass_17 hl (by decide) rfl (fun ls2 hl2 => ?_)
      exact lw_num C hr hlk hW9 hS9 (i := 1) rfl hp (v := 2) (by decide) (by decide) dL_furnaceMass_19 dL_furnaceMass_20 (Nat.le_of_eq (Nat.zero_add _)) (Nat.le_of_eq (Nat.zero_add _))
  intro r Y H1 locs1 hW1 hS1 hp
  refine lv_i2l hx hb dL_furnaceMass_8 rfl ?_
  exact lw_tail (g := id) C hr hlk hW1 hS1 hp dL_furnaceMass_9 dL_furnaceMass_10 (tgt := 21) (by decide) dL_furnaceMass_21 dL_furnaceMass_22 (Nat.le_of_eq (Nat.zero_add _)) (Nat.le_of_eq (Nat.zero_add _))
