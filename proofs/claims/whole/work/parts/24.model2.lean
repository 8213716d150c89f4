/-! The reference: melting, taking, adding. -/
def tkL (i : Nat) : Nat → (Nat → Int32) → (Nat → Int32) → (Nat → Int32) × (Nat → Int32)
  | 0, w, p => (w, p)
  | q + 1, w, p => tkL i q (upd w (i + best4 w i) (w (i + best4 w i) - 1)) (upd p (best4 w i) (p (best4 w i) + 1))
def adS (w p : Nat → Int32) (i k : Nat) : Nat → Int32 := upd w (i + k) (w (i + k) + p k)
def oM_point (w16 : Nat → Int32) (w21 : Nat → Int32) (i : Nat) : Int32 := (((((w16 (i)) * (w21 (0))) + ((w16 (i + 1)) * (w21 (1)))) + ((w16 (i + 2)) * (w21 (2)))) + ((w16 (i + 3)) * (w21 (3)))) / (oM_mass (w16) i)
set_option maxHeartbeats 4000000 in
set_option maxRecDepth 100000 in
theorem cX8_point_ok (l : Launch) (G : GT) (X : St) (i : Nat) (hi : i + 4 ≤ 128) (hd : ¬ oM_mass (X.1 16) i = 0) : MetI l G yX8_point (wsG yX8_point cX8_point 4 (some .int)) (rmz 1 21) [.ref (ad G 723), .int (nI i)] X (fun res Y => res = oM_point (X.1 16) (X.1 21) i ∧ Y = X) := by
  refine g_met (cc := cX8_point) (maxL := 4) (ret := (some .int)) (by decide) rfl (Nat.le_of_ble_eq_true rfl) ?_
  intro p e s m below meth c ls C hr hlk hnm hW hl
  have hx := C.1.1
  have hb := C.1.2.1
  have hS : va_S (Ab G) s.heap s.heap [] := va_S.rf
  have hl : lv_has ls 4 [(0, .ref (ad G 723)), (1, .int (nI i))] := hl
  refine lv_iconst (v := 0) hx hb dX8_point_0 (by decide) ?_
  refine lv_istore_n (lv' := [(2, .int 0), (0, .ref (ad G 723)), (1, .int (nI i))]) hx hb dX8_point_1 rfl hl (by decide) rfl (fun ls_1 hl_2 => ?_)
  refine lv_iconst (v := 0) hx hb dX8_point_2 (by decide) ?_
  refine lv_istore_n (lv' := [(3, .int 0), (2, .int 0), (0, .ref (ad G 723)), (1, .int (nI i))]) hx hb dX8_point_3 rfl hl_2 (by decide) rfl (fun ls_3 hl_4 => ?_)
  refine lv_iload_n hx hb dX8_point_4 rfl (lv_at hl_4 0 rfl) ?_
  refine lv_iconst (v := 4) hx hb dX8_point_5 (by decide) ?_
  refine lv_icmp_ge (tgt := 33) hx hb dX8_point_6 (by decide) (fun h9 => absurd h9 (by decide)) (fun _ => ?_)
  refine lv_iload_n hx hb dX8_point_9 rfl (lv_at hl_4 1 rfl) ?_
  refine lv_aload_n hx hb dX8_point_10 rfl (lv_at hl_4 2 rfl) ?_
  refine gM_v C hW (hwc hwX8) (mc qw_1481) dX8_point_11 ?_
  refine lv_iload_n hx hb dX8_point_14 rfl (lv_at hl_4 3 rfl) ?_
  refine lv_iload_n hx hb dX8_point_15 rfl (lv_at hl_4 0 rfl) ?_
  refine lv_iadd hx hb dX8_point_16 ?_
  refine g_top (y := (nI i)) (Int32.add_zero _) ?_
  refine gm_vld C hW i (nI_clamp (by omega)) (vp_in_nI (show i < 128 by omega) (by decide)) dX8_point_17 ?_
  refine lv_aload_n hx hb dX8_point_18 rfl (lv_at hl_4 2 rfl) ?_
  refine gM_points C hW (hwc hwX8) (mc qw_1486) dX8_point_19 ?_
  refine lv_iload_n hx hb dX8_point_22 rfl (lv_at hl_4 0 rfl) ?_
  refine gm_pointsld C hW 0 (by decide) (vlit (by decide)) dX8_point_23 ?_
  refine lv_imul hx hb dX8_point_24 ?_
  refine lv_iadd hx hb dX8_point_25 ?_
  refine g_top (y := ((X.1 16 (i)) * (X.1 21 (0)))) (Int32.zero_add _) ?_
  refine lv_topi (fun v_5 ev_5 => ?_)
  refine lv_istore_n (lv' := [(2, .int v_5), (3, .int 0), (0, .ref (ad G 723)), (1, .int (nI i))]) hx hb dX8_point_26 rfl hl_4 (by decide) rfl (fun ls_6 hl_7 => ?_)
  refine lv_iinc (v := 1) (lv' := [(3, .int 1), (2, .int v_5), (0, .ref (ad G 723)), (1, .int (nI i))]) hx hb dX8_point_27 hl_7 (k := 1) rfl (by decide) (by decide) rfl (fun ls_8 hl_9 => ?_)
  refine lv_goto (tgt := 4) hx hb dX8_point_30 (by decide) ?_
  refine lv_iload_n hx hb dX8_point_4 rfl (lv_at hl_9 0 rfl) ?_
  refine lv_iconst (v := 4) hx hb dX8_point_5 (by decide) ?_
  refine lv_icmp_ge (tgt := 33) hx hb dX8_point_6 (by decide) (fun h9 => absurd h9 (by decide)) (fun _ => ?_)
  refine lv_iload_n hx hb dX8_point_9 rfl (lv_at hl_9 1 rfl) ?_
  refine lv_aload_n hx hb dX8_point_10 rfl (lv_at hl_9 2 rfl) ?_
  refine gM_v C hW (hwc hwX8) (mc qw_1481) dX8_point_11 ?_
  refine lv_iload_n hx hb dX8_point_14 rfl (lv_at hl_9 3 rfl) ?_
  refine lv_iload_n hx hb dX8_point_15 rfl (lv_at hl_9 0 rfl) ?_
  refine lv_iadd hx hb dX8_point_16 ?_
  refine g_top (y := nI (i + 1)) (nI_add i 1) ?_
  refine gm_vld C hW (i + 1) (nI_clamp (by omega)) (vp_in_nI (show i + 1 < 128 by omega) (by decide)) dX8_point_17 ?_
  refine lv_aload_n hx hb dX8_point_18 rfl (lv_at hl_9 2 rfl) ?_
  refine gM_points C hW (hwc hwX8) (mc qw_1486) dX8_point_19 ?_
  refine lv_iload_n hx hb dX8_point_22 rfl (lv_at hl_9 0 rfl) ?_
  refine gm_pointsld C hW 1 (by decide) (vlit (by decide)) dX8_point_23 ?_
  refine lv_imul hx hb dX8_point_24 ?_
  refine lv_iadd hx hb dX8_point_25 ?_
  refine lv_topi (fun v_10 ev_10 => ?_)
  refine lv_istore_n (lv' := [(2, .int v_10), (3, .int 1), (0, .ref (ad G 723)), (1, .int (nI i))]) hx hb dX8_point_26 rfl hl_9 (by decide) rfl (fun ls_11 hl_12 => ?_)
  refine lv_iinc (v := 2) (lv' := [(3, .int 2), (2, .int v_10), (0, .ref (ad G 723)), (1, .int (nI i))]) hx hb dX8_point_27 hl_12 (k := 1) rfl (by decide) (by decide) rfl (fun ls_13 hl_14 => ?_)
  refine lv_goto (tgt := 4) hx hb dX8_point_30 (by decide) ?_
  refine lv_iload_n hx hb dX8_point_4 rfl (lv_at hl_14 0 rfl) ?_
  refine lv_iconst (v := 4) hx hb dX8_point_5 (by decide) ?_
  refine lv_icmp_ge (tgt := 33) hx hb dX8_point_6 (by decide) (fun h9 => absurd h9 (by decide)) (fun _ => ?_)
  refine lv_iload_n hx hb dX8_point_9 rfl (lv_at hl_14 1 rfl) ?_
  refine lv_aload_n hx hb dX8_point_10 rfl (lv_at hl_14 2 rfl) ?_
  refine gM_v C hW (hwc hwX8) (mc qw_1481) dX8_point_11 ?_
  refine lv_iload_n hx hb dX8_point_14 rfl (lv_at hl_14 3 rfl) ?_
  refine lv_iload_n hx hb dX8_point_15 rfl (lv_at hl_14 0 rfl) ?_
  refine lv_iadd hx hb dX8_point_16 ?_
  refine g_top (y := nI (i + 2)) (nI_add i 2) ?_
  refine gm_vld C hW (i + 2) (nI_clamp (by omega)) (vp_in_nI (show i + 2 < 128 by omega) (by decide)) dX8_point_17 ?_
  refine lv_aload_n hx hb dX8_point_18 rfl (lv_at hl_14 2 rfl) ?_
  refine gM_points C hW (hwc hwX8) (mc qw_1486) dX8_point_19 ?_
  refine lv_iload_n hx hb dX8_point_22 rfl (lv_at hl_14 0 rfl) ?_
  refine gm_pointsld C hW 2 (by decide) (vlit (by decide)) dX8_point_23 ?_
  refine lv_imul hx hb dX8_point_24 ?_
  refine lv_iadd hx hb dX8_point_25 ?_
  refine lv_topi (fun v_15 ev_15 => ?_)
  refine lv_istore_n (lv' := [(2, .int v_15), (3, .int 2), (0, .ref (ad G 723)), (1, .int (nI i))]) hx hb dX8_point_26 rfl hl_14 (by decide) rfl (fun ls_16 hl_17 => ?_)
  refine lv_iinc (v := 3) (lv' := [(3, .int 3), (2, .int v_15), (0, .ref (ad G 723)), (1, .int (nI i))]) hx hb dX8_point_27 hl_17 (k := 1) rfl (by decide) (by decide) rfl (fun ls_18 hl_19 => ?_)
  refine lv_goto (tgt := 4) hx hb dX8_point_30 (by decide) ?_
  refine lv_iload_n hx hb dX8_point_4 rfl (lv_at hl_19 0 rfl) ?_
  refine lv_iconst (v := 4) hx hb dX8_point_5 (by decide) ?_
  refine lv_icmp_ge (tgt := 33) hx hb dX8_point_6 (by decide) (fun h9 => absurd h9 (by decide)) (fun _ => ?_)
  refine lv_iload_n hx hb dX8_point_9 rfl (lv_at hl_19 1 rfl) ?_
  refine lv_aload_n hx hb dX8_point_10 rfl (lv_at hl_19 2 rfl) ?_
  refine gM_v C hW (hwc hwX8) (mc qw_1481) dX8_point_11 ?_
  refine lv_iload_n hx hb dX8_point_14 rfl (lv_at hl_19 3 rfl) ?_
  refine lv_iload_n hx hb dX8_point_15 rfl (lv_at hl_19 0 rfl) ?_
  refine lv_iadd hx hb dX8_point_16 ?_
  refine g_top (y := nI (i + 3)) (nI_add i 3) ?_
  refine gm_vld C hW (i + 3) (nI_clamp (by omega)) (vp_in_nI (show i + 3 < 128 by omega) (by decide)) dX8_point_17 ?_
  refine lv_aload_n hx hb dX8_point_18 rfl (lv_at hl_19 2 rfl) ?_
  refine gM_points C hW (hwc hwX8) (mc qw_1486) dX8_point_19 ?_
  refine lv_iload_n hx hb dX8_point_22 rfl (lv_at hl_19 0 rfl) ?_
  refine gm_pointsld C hW 3 (by decide) (vlit (by decide)) dX8_point_23 ?_
  refine lv_imul hx hb dX8_point_24 ?_
  refine lv_iadd hx hb dX8_point_25 ?_
  refine lv_topi (fun v_20 ev_20 => ?_)
  refine lv_istore_n (lv' := [(2, .int v_20), (3, .int 3), (0, .ref (ad G 723)), (1, .int (nI i))]) hx hb dX8_point_26 rfl hl_19 (by decide) rfl (fun ls_21 hl_22 => ?_)
  refine lv_iinc (v := 4) (lv' := [(3, .int 4), (2, .int v_20), (0, .ref (ad G 723)), (1, .int (nI i))]) hx hb dX8_point_27 hl_22 (k := 1) rfl (by decide) (by decide) rfl (fun ls_23 hl_24 => ?_)
  refine lv_goto (tgt := 4) hx hb dX8_point_30 (by decide) ?_
  refine lv_iload_n hx hb dX8_point_4 rfl (lv_at hl_24 0 rfl) ?_
  refine lv_iconst (v := 4) hx hb dX8_point_5 (by decide) ?_
  refine lv_icmp_ge (tgt := 33) hx hb dX8_point_6 (by decide) (fun _ => ?_) (fun h9 => absurd h9 (by decide))
  refine lv_iload_n hx hb dX8_point_33 rfl (lv_at hl_24 1 rfl) ?_
  refine lv_aload_n hx hb dX8_point_34 rfl (lv_at hl_24 2 rfl) ?_
  refine lv_iload_n hx hb dX8_point_35 rfl (lv_at hl_24 3 rfl) ?_
  refine g_calli (va_runV (As := [.int (nI i)]) (rest := [.int v_20]) C.1 (cX8_mass_ok l G X i (show i + 4 ≤ 128 by omega)) (cwV 1 C.1.2.2.2.2 (gV qw_1575 qw_1577 qw_32 qw_81 qw_1578) rfl rfl rfl (by decide +kernel) ⟨Nat.le_of_ble_eq_true rfl, Nat.le_of_ble_eq_true rfl⟩) (g_rModel C hW hS [.int (nI i)]) rfl rfl hl_24.1 rfl (lv_room (Nat.le_of_ble_eq_true rfl)) dX8_point_36 ⟨Nat.zero_le _, Nat.zero_le _⟩) hS (fun r_26 Y_27 H_28 locs_29 hW_30 hS_31 h_25 => ?_)
  obtain ⟨h_25, hy_32⟩ := h_25
  replace hy_32 := hy_32.symm
  subst hy_32
  replace h_25 : r_26 = oM_mass (X.1 16) i := h_25
  subst h_25
  refine lv_idiv hx hb dX8_point_39 hd ?_
  exact g_iret C hr hlk hW_30 hS_31 dX8_point_40 (by subst ev_20; subst ev_15; subst ev_10; subst ev_5; exact ⟨(by first | rfl | (simp only [oM_point, if_true, if_false]; first | done | rfl)), (by first | rfl | (simp only [oM_point, if_true, if_false]; first | done | rfl))⟩)

def oM_isFluid (w16 : Nat → Int32) (w21 : Nat → Int32) (i : Nat) : Int32 := if oM_mass (w16) i ≤ 0 then 0 else (if w16 (i + 4) < oM_point (w16) (w21) i then 0 else 1)
set_option maxHeartbeats 4000000 in
set_option maxRecDepth 100000 in
theorem cX8_isFluid_ok (l : Launch) (G : GT) (X : St) (i : Nat) (hi : i + 5 ≤ 128) : MetI l G yX8_isFluid (wsG yX8_isFluid cX8_isFluid 2 (some .boolean)) (rmz 2 44) [.ref (ad G 723), .int (nI i)] X (fun res Y => res = oM_isFluid (X.1 16) (X.1 21) i ∧ Y = X) := by
  refine g_met (cc := cX8_isFluid) (maxL := 2) (ret := (some .boolean)) (by decide) rfl (Nat.le_of_ble_eq_true rfl) ?_
  intro p e s m below meth c ls C hr hlk hnm hW hl
  have hx := C.1.1
  have hb := C.1.2.1
  have hS : va_S (Ab G) s.heap s.heap [] := va_S.rf
  have hl : lv_has ls 2 [(0, .ref (ad G 723)), (1, .int (nI i))] := hl
  refine lv_aload_n hx hb dX8_isFluid_0 rfl (lv_at hl 0 rfl) ?_
  refine lv_iload_n hx hb dX8_isFluid_1 rfl (lv_at hl 1 rfl) ?_
  refine g_calli (va_runV (As := [.int (nI i)]) (rest := []) C.1 (cX8_mass_ok l G X i (show i + 4 ≤ 128 by omega)) (cwV 1 C.1.2.2.2.2 (gV qw_1575 qw_1577 qw_32 qw_81 qw_1578) rfl rfl rfl (by decide +kernel) ⟨Nat.le_of_ble_eq_true rfl, Nat.le_of_ble_eq_true rfl⟩) (g_rModel C hW hS [.int (nI i)]) rfl rfl hl.1 rfl (lv_room (Nat.le_of_ble_eq_true rfl)) dX8_isFluid_2 ⟨Nat.zero_le _, Nat.zero_le _⟩) hS (fun r_2 Y_3 H_4 locs_5 hW_6 hS_7 h_1 => ?_)
  obtain ⟨h_1, hy_8⟩ := h_1
  replace hy_8 := hy_8.symm
  subst hy_8
  replace h_1 : r_2 = oM_mass (X.1 16) i := h_1
  subst h_1
  refine lv_if_le (tgt := 28) hx hb dX8_isFluid_5 (by decide) (fun b_9 => ?_) (fun b_9 => ?_)
  · refine lv_iconst (v := 0) hx hb dX8_isFluid_28 (by decide) ?_
    exact g_zret C hr hlk hW_6 hS_7 dX8_isFluid_29 rfl (by exact ⟨(by first | rfl | (simp only [oM_isFluid, b_9, if_true, if_false]; first | done | rfl)), (by first | rfl | (simp only [oM_isFluid, b_9, if_true, if_false]; first | done | rfl))⟩)
  · refine lv_aload_n hx hb dX8_isFluid_8 rfl (lv_at hl 0 rfl) ?_
    refine gM_v C hW_6 (hwc hwX8) (mc qw_1481) dX8_isFluid_9 ?_
    refine lv_iload_n hx hb dX8_isFluid_12 rfl (lv_at hl 1 rfl) ?_
    refine lv_iconst (v := 4) hx hb dX8_isFluid_13 (by decide) ?_
    refine lv_iadd hx hb dX8_isFluid_14 ?_
    refine g_top (y := nI (i + 4)) (nI_add i 4) ?_
    refine gm_vld C hW_6 (i + 4) (nI_clamp (by omega)) (vp_in_nI (show i + 4 < 128 by omega) (by decide)) dX8_isFluid_15 ?_
    refine lv_aload_n hx hb dX8_isFluid_16 rfl (lv_at hl 0 rfl) ?_
    refine lv_iload_n hx hb dX8_isFluid_17 rfl (lv_at hl 1 rfl) ?_
    refine g_calli (va_runV (As := [.int (nI i)]) (rest := [.int (X.1 16 (i + 4))]) C.1 (cX8_point_ok l G X i (show i + 4 ≤ 128 by omega) (fun q => b_9 (by rw [q]; decide))) (cwV 1 C.1.2.2.2.2 (gV qw_1615 qw_1617 qw_40 qw_81 qw_1618) rfl rfl rfl (by decide +kernel) ⟨Nat.le_of_ble_eq_true rfl, Nat.le_of_ble_eq_true rfl⟩) (g_rModel C hW_6 hS_7 [.int (nI i)]) rfl rfl hl.1 rfl (lv_room (Nat.le_of_ble_eq_true rfl)) dX8_isFluid_18 ⟨Nat.zero_le _, Nat.zero_le _⟩) hS_7 (fun r_11 Y_12 H_13 locs_14 hW_15 hS_16 h_10 => ?_)
    obtain ⟨h_10, hy_17⟩ := h_10
    replace hy_17 := hy_17.symm
    subst hy_17
    replace h_10 : r_11 = oM_point (X.1 16) (X.1 21) i := h_10
    subst h_10
    refine lv_icmp_lt (tgt := 28) hx hb dX8_isFluid_21 (by decide) (fun b_18 => ?_) (fun b_18 => ?_)
    · refine lv_iconst (v := 0) hx hb dX8_isFluid_28 (by decide) ?_
      exact g_zret C hr hlk hW_15 hS_16 dX8_isFluid_29 rfl (by exact ⟨(by first | rfl | (simp only [oM_isFluid, b_9, b_18, if_true, if_false]; first | done | rfl)), (by first | rfl | (simp only [oM_isFluid, b_9, b_18, if_true, if_false]; first | done | rfl))⟩)
    · refine lv_iconst (v := 1) hx hb dX8_isFluid_24 (by decide) ?_
      refine lv_goto (tgt := 29) hx hb dX8_isFluid_25 (by decide) ?_
      exact g_zret C hr hlk hW_15 hS_16 dX8_isFluid_29 rfl (by exact ⟨(by first | rfl | (simp only [oM_isFluid, b_9, b_18, if_true, if_false]; first | done | rfl)), (by first | rfl | (simp only [oM_isFluid, b_9, b_18, if_true, if_false]; first | done | rfl))⟩)

def oM_takes (w16 : Nat → Int32) (w20 : Nat → Int32) (i : Nat) (n : Int32) : (Nat → Int32) × (Nat → Int32) := 
  let m := oM_mass w16 i
  let p0 := upd w20 0 (w16 i * n / m)
  let p1 := upd p0 1 (w16 (i + 1) * n / m)
  let p2 := upd p1 2 (w16 (i + 2) * n / m)
  let p3 := upd p2 3 (w16 (i + 3) * n / m)
  let v0 := upd w16 i (w16 i - p3 0)
  let v1 := upd v0 (i + 1) (v0 (i + 1) - p3 1)
  let v2 := upd v1 (i + 2) (v1 (i + 2) - p3 2)
  let v3 := upd v2 (i + 3) (v2 (i + 3) - p3 3)
  tkL i (cnt (n - p0 0 - p1 1 - p2 2 - p3 3)) v3 p3
set_option maxHeartbeats 4000000 in
set_option maxRecDepth 100000 in
theorem cX8_takes_ok (l : Launch) (G : GT) (X : St) (i : Nat) (n : Int32) (hi : i + 4 ≤ 128) (hd : ¬ oM_mass (X.1 16) i = 0) : MetV l G yX8_takes (wsG yX8_takes cX8_takes 7 none) (rmz 1 21) [.ref (ad G 723), .int (nI i), .int n] X (fun Y => Y = setRow (setRow (X) 16 ((oM_takes (X.1 16) (X.1 20) i n).1)) 20 ((oM_takes (X.1 16) (X.1 20) i n).2)) := by
  refine g_met (cc := cX8_takes) (maxL := 7) (ret := none) (by decide) rfl (Nat.le_of_ble_eq_true rfl) ?_
  intro p e s m below meth c ls C hr hlk hnm hW hl
  have hx := C.1.1
  have hb := C.1.2.1
  have hS : va_S (Ab G) s.heap s.heap [] := va_S.rf
  have hl : lv_has ls 7 [(0, .ref (ad G 723)), (1, .int (nI i)), (2, .int n)] := hl
  have hW : Wd G (setRow (setRow (X) 16 (X.1 16)) 20 (X.1 20)) s.heap := Wd.cast (((sr_same (X := setRow (X) 16 (X.1 16)) (r := 20) rfl).trans (sr_same (X := X) (r := 16) rfl))).symm hW
  refine lv_aload_n hx hb dX8_takes_0 rfl (lv_at hl 0 rfl) ?_
  refine lv_iload_n hx hb dX8_takes_1 rfl (lv_at hl 1 rfl) ?_
  refine g_calli (va_runV (As := [.int (nI i)]) (rest := []) C.1 (cX8_mass_ok l G (setRow (setRow X 16 (X.1 16)) 20 (X.1 20)) i (show i + 4 ≤ 128 by omega)) (cwV 1 C.1.2.2.2.2 (gV qw_1575 qw_1577 qw_32 qw_81 qw_1578) rfl rfl rfl (by decide +kernel) ⟨Nat.le_of_ble_eq_true rfl, Nat.le_of_ble_eq_true rfl⟩) (g_rModel C hW hS [.int (nI i)]) rfl rfl hl.1 rfl (lv_room (Nat.le_of_ble_eq_true rfl)) dX8_takes_2 ⟨Nat.zero_le _, Nat.zero_le _⟩) hS (fun r_2 Y_3 H_4 locs_5 hW_6 hS_7 h_1 => ?_)
  obtain ⟨h_1, hy_8⟩ := h_1
  replace hy_8 := hy_8.symm
  subst hy_8
  replace h_1 : r_2 = oM_mass (X.1 16) i := h_1
  subst h_1
  refine lv_topi (fun v_9 ev_9 => ?_)
  refine lv_istore_n (lv' := [(3, .int v_9), (0, .ref (ad G 723)), (1, .int (nI i)), (2, .int n)]) hx hb dX8_takes_5 rfl hl (by decide) rfl (fun ls_10 hl_11 => ?_)
  refine lv_iload_n hx hb dX8_takes_6 rfl (lv_at hl_11 3 rfl) ?_
  refine lv_istore (lv' := [(4, .int n), (3, .int v_9), (0, .ref (ad G 723)), (1, .int (nI i)), (2, .int n)]) hx hb dX8_takes_7 hl_11 (by decide) rfl (fun ls_12 hl_13 => ?_)
  refine lv_iconst (v := 0) hx hb dX8_takes_9 (by decide) ?_
  refine lv_istore (lv' := [(5, .int 0), (4, .int n), (3, .int v_9), (0, .ref (ad G 723)), (1, .int (nI i)), (2, .int n)]) hx hb dX8_takes_10 hl_13 (by decide) rfl (fun ls_14 hl_15 => ?_)
  refine lv_iload hx hb dX8_takes_12 (lv_at hl_15 0 rfl) ?_
  refine lv_iconst (v := 4) hx hb dX8_takes_14 (by decide) ?_
  refine lv_icmp_ge (tgt := 56) hx hb dX8_takes_15 (by decide) (fun h9 => absurd h9 (by decide)) (fun _ => ?_)
  refine lv_aload_n hx hb dX8_takes_18 rfl (lv_at hl_15 3 rfl) ?_
  refine gM_part C hW_6 (hwc hwX8) (mc qw_1485) dX8_takes_19 ?_
  refine lv_iload hx hb dX8_takes_22 (lv_at hl_15 0 rfl) ?_
  refine lv_aload_n hx hb dX8_takes_24 rfl (lv_at hl_15 3 rfl) ?_
  refine gM_v C hW_6 (hwc hwX8) (mc qw_1481) dX8_takes_25 ?_
  refine lv_iload_n hx hb dX8_takes_28 rfl (lv_at hl_15 4 rfl) ?_
  refine lv_iload hx hb dX8_takes_29 (lv_at hl_15 0 rfl) ?_
  refine lv_iadd hx hb dX8_takes_31 ?_
  refine g_top (y := (nI i)) (Int32.add_zero _) ?_
  refine gm_vld C hW_6 i (nI_clamp (by omega)) (vp_in_nI (show i < 128 by omega) (by decide)) dX8_takes_32 ?_
  refine g_top (y := X.1 16 (i)) (congrFun (rd_in (by decide) rd_out) _) ?_
  refine lv_iload_n hx hb dX8_takes_33 rfl (lv_at hl_15 5 rfl) ?_
  refine lv_imul hx hb dX8_takes_34 ?_
  refine lv_iload_n hx hb dX8_takes_35 rfl (lv_at hl_15 2 rfl) ?_
  refine lv_idiv hx hb dX8_takes_36 (by rw [ev_9]; exact hd) ?_
  refine gm_partst C hW_6 hS_7 0 (by decide) (vlit (by decide)) dX8_takes_37 (fun H_16 locs_17 hW_18 hS_19 => ?_)
  obtain ⟨w_20, ew_20⟩ : ∃ Z9, Z9 = upd (X.1 20) (0) (((X.1 16 (i)) * n) / v_9) := ⟨_, rfl⟩
  have hW_21 : Wd G (setRow (setRow X 16 (X.1 16)) 20 w_20) H_16 := Wd.cast (by rw [ew_20]; exact st_out) hW_18
  refine lv_iload hx hb dX8_takes_38 (lv_at hl_15 1 rfl) ?_
  refine lv_aload_n hx hb dX8_takes_40 rfl (lv_at hl_15 3 rfl) ?_
  refine gM_part C hW_21 (hwc hwX8) (mc qw_1485) dX8_takes_41 ?_
  refine lv_iload hx hb dX8_takes_44 (lv_at hl_15 0 rfl) ?_
  refine gm_partld C hW_21 0 (by decide) (vlit (by decide)) dX8_takes_46 ?_
  refine g_top (y := w_20 (0)) (congrFun rd_out _) ?_
  refine lv_isub hx hb dX8_takes_47 ?_
  refine lv_topi (fun v_22 ev_22 => ?_)
  refine lv_istore (lv' := [(4, .int v_22), (5, .int 0), (3, .int v_9), (0, .ref (ad G 723)), (1, .int (nI i)), (2, .int n)]) hx hb dX8_takes_48 hl_15 (by decide) rfl (fun ls_23 hl_24 => ?_)
  refine lv_iinc (v := 1) (lv' := [(5, .int 1), (4, .int v_22), (3, .int v_9), (0, .ref (ad G 723)), (1, .int (nI i)), (2, .int n)]) hx hb dX8_takes_50 hl_24 (k := 1) rfl (by decide) (by decide) rfl (fun ls_25 hl_26 => ?_)
  refine lv_goto (tgt := 12) hx hb dX8_takes_53 (by decide) ?_
  refine lv_iload hx hb dX8_takes_12 (lv_at hl_26 0 rfl) ?_
  refine lv_iconst (v := 4) hx hb dX8_takes_14 (by decide) ?_
  refine lv_icmp_ge (tgt := 56) hx hb dX8_takes_15 (by decide) (fun h9 => absurd h9 (by decide)) (fun _ => ?_)
  refine lv_aload_n hx hb dX8_takes_18 rfl (lv_at hl_26 3 rfl) ?_
  refine gM_part C hW_21 (hwc hwX8) (mc qw_1485) dX8_takes_19 ?_
  refine lv_iload hx hb dX8_takes_22 (lv_at hl_26 0 rfl) ?_
  refine lv_aload_n hx hb dX8_takes_24 rfl (lv_at hl_26 3 rfl) ?_
  refine gM_v C hW_21 (hwc hwX8) (mc qw_1481) dX8_takes_25 ?_
  refine lv_iload_n hx hb dX8_takes_28 rfl (lv_at hl_26 4 rfl) ?_
  refine lv_iload hx hb dX8_takes_29 (lv_at hl_26 0 rfl) ?_
  refine lv_iadd hx hb dX8_takes_31 ?_
  refine g_top (y := nI (i + 1)) (nI_add i 1) ?_
  refine gm_vld C hW_21 (i + 1) (nI_clamp (by omega)) (vp_in_nI (show i + 1 < 128 by omega) (by decide)) dX8_takes_32 ?_
  refine g_top (y := X.1 16 (i + 1)) (congrFun (rd_in (by decide) rd_out) _) ?_
  refine lv_iload_n hx hb dX8_takes_33 rfl (lv_at hl_26 5 rfl) ?_
  refine lv_imul hx hb dX8_takes_34 ?_
  refine lv_iload_n hx hb dX8_takes_35 rfl (lv_at hl_26 2 rfl) ?_
  refine lv_idiv hx hb dX8_takes_36 (by rw [ev_9]; exact hd) ?_
  refine gm_partst C hW_21 hS_19 1 (by decide) (vlit (by decide)) dX8_takes_37 (fun H_27 locs_28 hW_29 hS_30 => ?_)
  obtain ⟨w_31, ew_31⟩ : ∃ Z9, Z9 = upd w_20 (1) (((X.1 16 (i + 1)) * n) / v_9) := ⟨_, rfl⟩
  have hW_32 : Wd G (setRow (setRow X 16 (X.1 16)) 20 w_31) H_27 := Wd.cast (by rw [ew_31]; exact st_out) hW_29
  refine lv_iload hx hb dX8_takes_38 (lv_at hl_26 1 rfl) ?_
  refine lv_aload_n hx hb dX8_takes_40 rfl (lv_at hl_26 3 rfl) ?_
  refine gM_part C hW_32 (hwc hwX8) (mc qw_1485) dX8_takes_41 ?_
  refine lv_iload hx hb dX8_takes_44 (lv_at hl_26 0 rfl) ?_
  refine gm_partld C hW_32 1 (by decide) (vlit (by decide)) dX8_takes_46 ?_
  refine g_top (y := w_31 (1)) (congrFun rd_out _) ?_
  refine lv_isub hx hb dX8_takes_47 ?_
  refine lv_topi (fun v_33 ev_33 => ?_)
  refine lv_istore (lv' := [(4, .int v_33), (5, .int 1), (3, .int v_9), (0, .ref (ad G 723)), (1, .int (nI i)), (2, .int n)]) hx hb dX8_takes_48 hl_26 (by decide) rfl (fun ls_34 hl_35 => ?_)
  refine lv_iinc (v := 2) (lv' := [(5, .int 2), (4, .int v_33), (3, .int v_9), (0, .ref (ad G 723)), (1, .int (nI i)), (2, .int n)]) hx hb dX8_takes_50 hl_35 (k := 1) rfl (by decide) (by decide) rfl (fun ls_36 hl_37 => ?_)
  refine lv_goto (tgt := 12) hx hb dX8_takes_53 (by decide) ?_
  refine lv_iload hx hb dX8_takes_12 (lv_at hl_37 0 rfl) ?_
  refine lv_iconst (v := 4) hx hb dX8_takes_14 (by decide) ?_
  refine lv_icmp_ge (tgt := 56) hx hb dX8_takes_15 (by decide) (fun h9 => absurd h9 (by decide)) (fun _ => ?_)
  refine lv_aload_n hx hb dX8_takes_18 rfl (lv_at hl_37 3 rfl) ?_
  refine gM_part C hW_32 (hwc hwX8) (mc qw_1485) dX8_takes_19 ?_
  refine lv_iload hx hb dX8_takes_22 (lv_at hl_37 0 rfl) ?_
  refine lv_aload_n hx hb dX8_takes_24 rfl (lv_at hl_37 3 rfl) ?_
  refine gM_v C hW_32 (hwc hwX8) (mc qw_1481) dX8_takes_25 ?_
  refine lv_iload_n hx hb dX8_takes_28 rfl (lv_at hl_37 4 rfl) ?_
  refine lv_iload hx hb dX8_takes_29 (lv_at hl_37 0 rfl) ?_
  refine lv_iadd hx hb dX8_takes_31 ?_
  refine g_top (y := nI (i + 2)) (nI_add i 2) ?_
  refine gm_vld C hW_32 (i + 2) (nI_clamp (by omega)) (vp_in_nI (show i + 2 < 128 by omega) (by decide)) dX8_takes_32 ?_
  refine g_top (y := X.1 16 (i + 2)) (congrFun (rd_in (by decide) rd_out) _) ?_
  refine lv_iload_n hx hb dX8_takes_33 rfl (lv_at hl_37 5 rfl) ?_
  refine lv_imul hx hb dX8_takes_34 ?_
  refine lv_iload_n hx hb dX8_takes_35 rfl (lv_at hl_37 2 rfl) ?_
  refine lv_idiv hx hb dX8_takes_36 (by rw [ev_9]; exact hd) ?_
  refine gm_partst C hW_32 hS_30 2 (by decide) (vlit (by decide)) dX8_takes_37 (fun H_38 locs_39 hW_40 hS_41 => ?_)
  obtain ⟨w_42, ew_42⟩ : ∃ Z9, Z9 = upd w_31 (2) (((X.1 16 (i + 2)) * n) / v_9) := ⟨_, rfl⟩
  have hW_43 : Wd G (setRow (setRow X 16 (X.1 16)) 20 w_42) H_38 := Wd.cast (by rw [ew_42]; exact st_out) hW_40
  refine lv_iload hx hb dX8_takes_38 (lv_at hl_37 1 rfl) ?_
  refine lv_aload_n hx hb dX8_takes_40 rfl (lv_at hl_37 3 rfl) ?_
  refine gM_part C hW_43 (hwc hwX8) (mc qw_1485) dX8_takes_41 ?_
  refine lv_iload hx hb dX8_takes_44 (lv_at hl_37 0 rfl) ?_
  refine gm_partld C hW_43 2 (by decide) (vlit (by decide)) dX8_takes_46 ?_
  refine g_top (y := w_42 (2)) (congrFun rd_out _) ?_
  refine lv_isub hx hb dX8_takes_47 ?_
  refine lv_topi (fun v_44 ev_44 => ?_)
  refine lv_istore (lv' := [(4, .int v_44), (5, .int 2), (3, .int v_9), (0, .ref (ad G 723)), (1, .int (nI i)), (2, .int n)]) hx hb dX8_takes_48 hl_37 (by decide) rfl (fun ls_45 hl_46 => ?_)
  refine lv_iinc (v := 3) (lv' := [(5, .int 3), (4, .int v_44), (3, .int v_9), (0, .ref (ad G 723)), (1, .int (nI i)), (2, .int n)]) hx hb dX8_takes_50 hl_46 (k := 1) rfl (by decide) (by decide) rfl (fun ls_47 hl_48 => ?_)
  refine lv_goto (tgt := 12) hx hb dX8_takes_53 (by decide) ?_
  refine lv_iload hx hb dX8_takes_12 (lv_at hl_48 0 rfl) ?_
  refine lv_iconst (v := 4) hx hb dX8_takes_14 (by decide) ?_
  refine lv_icmp_ge (tgt := 56) hx hb dX8_takes_15 (by decide) (fun h9 => absurd h9 (by decide)) (fun _ => ?_)
  refine lv_aload_n hx hb dX8_takes_18 rfl (lv_at hl_48 3 rfl) ?_
  refine gM_part C hW_43 (hwc hwX8) (mc qw_1485) dX8_takes_19 ?_
  refine lv_iload hx hb dX8_takes_22 (lv_at hl_48 0 rfl) ?_
  refine lv_aload_n hx hb dX8_takes_24 rfl (lv_at hl_48 3 rfl) ?_
  refine gM_v C hW_43 (hwc hwX8) (mc qw_1481) dX8_takes_25 ?_
  refine lv_iload_n hx hb dX8_takes_28 rfl (lv_at hl_48 4 rfl) ?_
  refine lv_iload hx hb dX8_takes_29 (lv_at hl_48 0 rfl) ?_
  refine lv_iadd hx hb dX8_takes_31 ?_
  refine g_top (y := nI (i + 3)) (nI_add i 3) ?_
  refine gm_vld C hW_43 (i + 3) (nI_clamp (by omega)) (vp_in_nI (show i + 3 < 128 by omega) (by decide)) dX8_takes_32 ?_
  refine g_top (y := X.1 16 (i + 3)) (congrFun (rd_in (by decide) rd_out) _) ?_
  refine lv_iload_n hx hb dX8_takes_33 rfl (lv_at hl_48 5 rfl) ?_
  refine lv_imul hx hb dX8_takes_34 ?_
  refine lv_iload_n hx hb dX8_takes_35 rfl (lv_at hl_48 2 rfl) ?_
  refine lv_idiv hx hb dX8_takes_36 (by rw [ev_9]; exact hd) ?_
  refine gm_partst C hW_43 hS_41 3 (by decide) (vlit (by decide)) dX8_takes_37 (fun H_49 locs_50 hW_51 hS_52 => ?_)
  obtain ⟨w_53, ew_53⟩ : ∃ Z9, Z9 = upd w_42 (3) (((X.1 16 (i + 3)) * n) / v_9) := ⟨_, rfl⟩
  have hW_54 : Wd G (setRow (setRow X 16 (X.1 16)) 20 w_53) H_49 := Wd.cast (by rw [ew_53]; exact st_out) hW_51
  refine lv_iload hx hb dX8_takes_38 (lv_at hl_48 1 rfl) ?_
  refine lv_aload_n hx hb dX8_takes_40 rfl (lv_at hl_48 3 rfl) ?_
  refine gM_part C hW_54 (hwc hwX8) (mc qw_1485) dX8_takes_41 ?_
  refine lv_iload hx hb dX8_takes_44 (lv_at hl_48 0 rfl) ?_
  refine gm_partld C hW_54 3 (by decide) (vlit (by decide)) dX8_takes_46 ?_
  refine g_top (y := w_53 (3)) (congrFun rd_out _) ?_
  refine lv_isub hx hb dX8_takes_47 ?_
  refine lv_topi (fun v_55 ev_55 => ?_)
  refine lv_istore (lv' := [(4, .int v_55), (5, .int 3), (3, .int v_9), (0, .ref (ad G 723)), (1, .int (nI i)), (2, .int n)]) hx hb dX8_takes_48 hl_48 (by decide) rfl (fun ls_56 hl_57 => ?_)
  refine lv_iinc (v := 4) (lv' := [(5, .int 4), (4, .int v_55), (3, .int v_9), (0, .ref (ad G 723)), (1, .int (nI i)), (2, .int n)]) hx hb dX8_takes_50 hl_57 (k := 1) rfl (by decide) (by decide) rfl (fun ls_58 hl_59 => ?_)
  refine lv_goto (tgt := 12) hx hb dX8_takes_53 (by decide) ?_
  refine lv_iload hx hb dX8_takes_12 (lv_at hl_59 0 rfl) ?_
  refine lv_iconst (v := 4) hx hb dX8_takes_14 (by decide) ?_
  refine lv_icmp_ge (tgt := 56) hx hb dX8_takes_15 (by decide) (fun _ => ?_) (fun h9 => absurd h9 (by decide))
  refine lv_iconst (v := 0) hx hb dX8_takes_56 (by decide) ?_
  refine lv_istore (lv' := [(5, .int 0), (4, .int v_55), (3, .int v_9), (0, .ref (ad G 723)), (1, .int (nI i)), (2, .int n)]) hx hb dX8_takes_57 hl_59 (by decide) rfl (fun ls_60 hl_61 => ?_)
  refine lv_iload hx hb dX8_takes_59 (lv_at hl_61 0 rfl) ?_
  refine lv_iconst (v := 4) hx hb dX8_takes_61 (by decide) ?_
  refine lv_icmp_ge (tgt := 90) hx hb dX8_takes_62 (by decide) (fun h9 => absurd h9 (by decide)) (fun _ => ?_)
  refine lv_aload_n hx hb dX8_takes_65 rfl (lv_at hl_61 3 rfl) ?_
  refine gM_v C hW_54 (hwc hwX8) (mc qw_1481) dX8_takes_66 ?_
  refine lv_iload_n hx hb dX8_takes_69 rfl (lv_at hl_61 4 rfl) ?_
  refine lv_iload hx hb dX8_takes_70 (lv_at hl_61 0 rfl) ?_
  refine lv_iadd hx hb dX8_takes_72 ?_
  refine g_top (y := (nI i)) (Int32.add_zero _) ?_
  refine lv_dup2_11 hx hb dX8_takes_73 rfl rfl ?_
  refine gm_vld C hW_54 i (nI_clamp (by omega)) (vp_in_nI (show i < 128 by omega) (by decide)) dX8_takes_74 ?_
  refine g_top (y := X.1 16 (i)) (congrFun (rd_in (by decide) rd_out) _) ?_
  refine lv_aload_n hx hb dX8_takes_75 rfl (lv_at hl_61 3 rfl) ?_
  refine gM_part C hW_54 (hwc hwX8) (mc qw_1485) dX8_takes_76 ?_
  refine lv_iload hx hb dX8_takes_79 (lv_at hl_61 0 rfl) ?_
  refine gm_partld C hW_54 0 (by decide) (vlit (by decide)) dX8_takes_81 ?_
  refine g_top (y := w_53 (0)) (congrFun rd_out _) ?_
  refine lv_isub hx hb dX8_takes_82 ?_
  refine gm_vst C hW_54 hS_52 i (nI_clamp (by omega)) (vp_in_nI (show i < 128 by omega) (by decide)) dX8_takes_83 (fun H_62 locs_63 hW_64 hS_65 => ?_)
  obtain ⟨w_66, ew_66⟩ : ∃ Z9, Z9 = upd (X.1 16) (i) ((X.1 16 (i)) - (w_53 (0))) := ⟨_, rfl⟩
  have hW_67 : Wd G (setRow (setRow X 16 w_66) 20 w_53) H_62 := Wd.cast (by rw [ew_66]; exact (st_in (by decide) st_out)) hW_64
  refine lv_iinc (v := 1) (lv' := [(5, .int 1), (4, .int v_55), (3, .int v_9), (0, .ref (ad G 723)), (1, .int (nI i)), (2, .int n)]) hx hb dX8_takes_84 hl_61 (k := 0) rfl (by decide) (by decide) rfl (fun ls_68 hl_69 => ?_)
  refine lv_goto (tgt := 59) hx hb dX8_takes_87 (by decide) ?_
  refine lv_iload hx hb dX8_takes_59 (lv_at hl_69 0 rfl) ?_
  refine lv_iconst (v := 4) hx hb dX8_takes_61 (by decide) ?_
  refine lv_icmp_ge (tgt := 90) hx hb dX8_takes_62 (by decide) (fun h9 => absurd h9 (by decide)) (fun _ => ?_)
  refine lv_aload_n hx hb dX8_takes_65 rfl (lv_at hl_69 3 rfl) ?_
  refine gM_v C hW_67 (hwc hwX8) (mc qw_1481) dX8_takes_66 ?_
  refine lv_iload_n hx hb dX8_takes_69 rfl (lv_at hl_69 4 rfl) ?_
  refine lv_iload hx hb dX8_takes_70 (lv_at hl_69 0 rfl) ?_
  refine lv_iadd hx hb dX8_takes_72 ?_
  refine g_top (y := nI (i + 1)) (nI_add i 1) ?_
  refine lv_dup2_11 hx hb dX8_takes_73 rfl rfl ?_
  refine gm_vld C hW_67 (i + 1) (nI_clamp (by omega)) (vp_in_nI (show i + 1 < 128 by omega) (by decide)) dX8_takes_74 ?_
  refine g_top (y := w_66 (i + 1)) (congrFun (rd_in (by decide) rd_out) _) ?_
  refine lv_aload_n hx hb dX8_takes_75 rfl (lv_at hl_69 3 rfl) ?_
  refine gM_part C hW_67 (hwc hwX8) (mc qw_1485) dX8_takes_76 ?_
  refine lv_iload hx hb dX8_takes_79 (lv_at hl_69 0 rfl) ?_
  refine gm_partld C hW_67 1 (by decide) (vlit (by decide)) dX8_takes_81 ?_
  refine g_top (y := w_53 (1)) (congrFun rd_out _) ?_
  refine lv_isub hx hb dX8_takes_82 ?_
  refine gm_vst C hW_67 hS_65 (i + 1) (nI_clamp (by omega)) (vp_in_nI (show i + 1 < 128 by omega) (by decide)) dX8_takes_83 (fun H_70 locs_71 hW_72 hS_73 => ?_)
  obtain ⟨w_74, ew_74⟩ : ∃ Z9, Z9 = upd w_66 (i + 1) ((w_66 (i + 1)) - (w_53 (1))) := ⟨_, rfl⟩
  have hW_75 : Wd G (setRow (setRow X 16 w_74) 20 w_53) H_70 := Wd.cast (by rw [ew_74]; exact (st_in (by decide) st_out)) hW_72
  refine lv_iinc (v := 2) (lv' := [(5, .int 2), (4, .int v_55), (3, .int v_9), (0, .ref (ad G 723)), (1, .int (nI i)), (2, .int n)]) hx hb dX8_takes_84 hl_69 (k := 0) rfl (by decide) (by decide) rfl (fun ls_76 hl_77 => ?_)
  refine lv_goto (tgt := 59) hx hb dX8_takes_87 (by decide) ?_
  refine lv_iload hx hb dX8_takes_59 (lv_at hl_77 0 rfl) ?_
  refine lv_iconst (v := 4) hx hb dX8_takes_61 (by decide) ?_
  refine lv_icmp_ge (tgt := 90) hx hb dX8_takes_62 (by decide) (fun h9 => absurd h9 (by decide)) (fun _ => ?_)
  refine lv_aload_n hx hb dX8_takes_65 rfl (lv_at hl_77 3 rfl) ?_
  refine gM_v C hW_75 (hwc hwX8) (mc qw_1481) dX8_takes_66 ?_
  refine lv_iload_n hx hb dX8_takes_69 rfl (lv_at hl_77 4 rfl) ?_
  refine lv_iload hx hb dX8_takes_70 (lv_at hl_77 0 rfl) ?_
  refine lv_iadd hx hb dX8_takes_72 ?_
  refine g_top (y := nI (i + 2)) (nI_add i 2) ?_
  refine lv_dup2_11 hx hb dX8_takes_73 rfl rfl ?_
  refine gm_vld C hW_75 (i + 2) (nI_clamp (by omega)) (vp_in_nI (show i + 2 < 128 by omega) (by decide)) dX8_takes_74 ?_
  refine g_top (y := w_74 (i + 2)) (congrFun (rd_in (by decide) rd_out) _) ?_
  refine lv_aload_n hx hb dX8_takes_75 rfl (lv_at hl_77 3 rfl) ?_
  refine gM_part C hW_75 (hwc hwX8) (mc qw_1485) dX8_takes_76 ?_
  refine lv_iload hx hb dX8_takes_79 (lv_at hl_77 0 rfl) ?_
  refine gm_partld C hW_75 2 (by decide) (vlit (by decide)) dX8_takes_81 ?_
  refine g_top (y := w_53 (2)) (congrFun rd_out _) ?_
  refine lv_isub hx hb dX8_takes_82 ?_
  refine gm_vst C hW_75 hS_73 (i + 2) (nI_clamp (by omega)) (vp_in_nI (show i + 2 < 128 by omega) (by decide)) dX8_takes_83 (fun H_78 locs_79 hW_80 hS_81 => ?_)
  obtain ⟨w_82, ew_82⟩ : ∃ Z9, Z9 = upd w_74 (i + 2) ((w_74 (i + 2)) - (w_53 (2))) := ⟨_, rfl⟩
  have hW_83 : Wd G (setRow (setRow X 16 w_82) 20 w_53) H_78 := Wd.cast (by rw [ew_82]; exact (st_in (by decide) st_out)) hW_80
  refine lv_iinc (v := 3) (lv' := [(5, .int 3), (4, .int v_55), (3, .int v_9), (0, .ref (ad G 723)), (1, .int (nI i)), (2, .int n)]) hx hb dX8_takes_84 hl_77 (k := 0) rfl (by decide) (by decide) rfl (fun ls_84 hl_85 => ?_)
  refine lv_goto (tgt := 59) hx hb dX8_takes_87 (by decide) ?_
  refine lv_iload hx hb dX8_takes_59 (lv_at hl_85 0 rfl) ?_
  refine lv_iconst (v := 4) hx hb dX8_takes_61 (by decide) ?_
  refine lv_icmp_ge (tgt := 90) hx hb dX8_takes_62 (by decide) (fun h9 => absurd h9 (by decide)) (fun _ => ?_)
  refine lv_aload_n hx hb dX8_takes_65 rfl (lv_at hl_85 3 rfl) ?_
  refine gM_v C hW_83 (hwc hwX8) (mc qw_1481) dX8_takes_66 ?_
  refine lv_iload_n hx hb dX8_takes_69 rfl (lv_at hl_85 4 rfl) ?_
  refine lv_iload hx hb dX8_takes_70 (lv_at hl_85 0 rfl) ?_
  refine lv_iadd hx hb dX8_takes_72 ?_
  refine g_top (y := nI (i + 3)) (nI_add i 3) ?_
  refine lv_dup2_11 hx hb dX8_takes_73 rfl rfl ?_
  refine gm_vld C hW_83 (i + 3) (nI_clamp (by omega)) (vp_in_nI (show i + 3 < 128 by omega) (by decide)) dX8_takes_74 ?_
  refine g_top (y := w_82 (i + 3)) (congrFun (rd_in (by decide) rd_out) _) ?_
  refine lv_aload_n hx hb dX8_takes_75 rfl (lv_at hl_85 3 rfl) ?_
  refine gM_part C hW_83 (hwc hwX8) (mc qw_1485) dX8_takes_76 ?_
  refine lv_iload hx hb dX8_takes_79 (lv_at hl_85 0 rfl) ?_
  refine gm_partld C hW_83 3 (by decide) (vlit (by decide)) dX8_takes_81 ?_
  refine g_top (y := w_53 (3)) (congrFun rd_out _) ?_
  refine lv_isub hx hb dX8_takes_82 ?_
  refine gm_vst C hW_83 hS_81 (i + 3) (nI_clamp (by omega)) (vp_in_nI (show i + 3 < 128 by omega) (by decide)) dX8_takes_83 (fun H_86 locs_87 hW_88 hS_89 => ?_)
  obtain ⟨w_90, ew_90⟩ : ∃ Z9, Z9 = upd w_82 (i + 3) ((w_82 (i + 3)) - (w_53 (3))) := ⟨_, rfl⟩
  have hW_91 : Wd G (setRow (setRow X 16 w_90) 20 w_53) H_86 := Wd.cast (by rw [ew_90]; exact (st_in (by decide) st_out)) hW_88
  refine lv_iinc (v := 4) (lv' := [(5, .int 4), (4, .int v_55), (3, .int v_9), (0, .ref (ad G 723)), (1, .int (nI i)), (2, .int n)]) hx hb dX8_takes_84 hl_85 (k := 0) rfl (by decide) (by decide) rfl (fun ls_92 hl_93 => ?_)
  refine lv_goto (tgt := 59) hx hb dX8_takes_87 (by decide) ?_
  refine lv_iload hx hb dX8_takes_59 (lv_at hl_93 0 rfl) ?_
  refine lv_iconst (v := 4) hx hb dX8_takes_61 (by decide) ?_
  refine lv_icmp_ge (tgt := 90) hx hb dX8_takes_62 (by decide) (fun _ => ?_) (fun h9 => absurd h9 (by decide))
  have loop : ∀ (q : Nat) (zz pp : Nat → Int32) (lf : Int32) (H : Heap) (locs : List Loc) (ls : Array Slot), cnt lf = q → tkL i q zz pp = oM_takes (X.1 16) (X.1 20) i n → Wd G (setRow (setRow X 16 zz) 20 pp) H → va_S (Ab G) s.heap H locs → lv_has ls 7 [(4, .int lf), (0, .ref (ad G 723)), (1, .int (nI i))] → W p l e (rmz 1 21) s m ([.ref (ad G 723), .int (nI i), .int n] : List Value).toArray below meth c H locs 0 0 (MQ below (Kv G (fun Y => Y = setRow (setRow (X) 16 ((oM_takes (X.1 16) (X.1 20) i n).1)) 20 ((oM_takes (X.1 16) (X.1 20) i n).2))) ([.ref (ad G 723), .int (nI i), .int n] : List Value).toArray s 0 0 (Ab G)) (F0 m 90 ls []) := by
    intro q
    induction q with
    | zero =>
      intro zz pp lf H locs ls hq hf hW hS hl
      refine lv_iload hx hb dX8_takes_90 (lv_at hl 0 rfl) ?_
      refine lv_if_le (tgt := 168) hx hb dX8_takes_92 (by decide) (fun _ => ?_) (fun h9 => absurd (cnt_0 hq) h9)
      exact g_vret C hr hlk hW hS dX8_takes_168 (by rw [← hf]; rfl)
    | succ q ih =>
      intro zz pp lf H locs ls hq hf hW hS hl
      refine lv_iload hx hb dX8_takes_90 (lv_at hl 0 rfl) ?_
      refine lv_if_le (tgt := 168) hx hb dX8_takes_92 (by decide) (fun h9 => absurd h9 (cnt_s hq)) (fun _ => ?_)
      refine lv_iconst (v := 0) hx hb dX8_takes_95 (by decide) ?_
      refine lv_istore (lv' := [(5, .int 0), (4, .int lf), (0, .ref (ad G 723)), (1, .int (nI i))]) hx hb dX8_takes_96 hl (by decide) rfl (fun ls_94 hl_95 => ?_)
      refine lv_iconst (v := 1) hx hb dX8_takes_98 (by decide) ?_
      refine lv_istore (lv' := [(6, .int 1), (5, .int 0), (4, .int lf), (0, .ref (ad G 723)), (1, .int (nI i))]) hx hb dX8_takes_99 hl_95 (by decide) rfl (fun ls_96 hl_97 => ?_)
      refine lv_iload hx hb dX8_takes_101 (lv_at hl_97 0 rfl) ?_
      refine lv_iconst (v := 4) hx hb dX8_takes_103 (by decide) ?_
      refine lv_icmp_ge (tgt := 138) hx hb dX8_takes_104 (by decide) (fun h9 => absurd h9 (by decide)) (fun _ => ?_)
      refine lv_aload_n hx hb dX8_takes_107 rfl (lv_at hl_97 3 rfl) ?_
      refine gM_v C hW (hwc hwX8) (mc qw_1481) dX8_takes_108 ?_
      refine lv_iload_n hx hb dX8_takes_111 rfl (lv_at hl_97 4 rfl) ?_
      refine lv_iload hx hb dX8_takes_112 (lv_at hl_97 0 rfl) ?_
      refine lv_iadd hx hb dX8_takes_114 ?_
      refine g_top (y := nI (i + 1)) (nI_add i 1) ?_
      refine gm_vld C hW (i + 1) (nI_clamp (by omega)) (vp_in_nI (show i + 1 < 128 by omega) (by decide)) dX8_takes_115 ?_
      refine g_top (y := zz (i + 1)) (congrFun (rd_in (by decide) rd_out) _) ?_
      refine lv_aload_n hx hb dX8_takes_116 rfl (lv_at hl_97 3 rfl) ?_
      refine gM_v C hW (hwc hwX8) (mc qw_1481) dX8_takes_117 ?_
      refine lv_iload_n hx hb dX8_takes_120 rfl (lv_at hl_97 4 rfl) ?_
      refine lv_iload hx hb dX8_takes_121 (lv_at hl_97 1 rfl) ?_
      refine lv_iadd hx hb dX8_takes_123 ?_
      refine g_top (y := (nI i)) (Int32.add_zero _) ?_
      refine gm_vld C hW i (nI_clamp (by omega)) (vp_in_nI (show i < 128 by omega) (by decide)) dX8_takes_124 ?_
      refine g_top (y := zz (i)) (congrFun (rd_in (by decide) rd_out) _) ?_
      refine lv_icmp_le (tgt := 132) hx hb dX8_takes_125 (by decide) (fun b_98 => ?_) (fun b_98 => ?_)
      · refine lv_iinc (v := 2) (lv' := [(6, .int 2), (5, .int 0), (4, .int lf), (0, .ref (ad G 723)), (1, .int (nI i))]) hx hb dX8_takes_132 hl_97 (k := 0) rfl (by decide) (by decide) rfl (fun ls_99 hl_100 => ?_)
        refine lv_goto (tgt := 101) hx hb dX8_takes_135 (by decide) ?_
        refine lv_iload hx hb dX8_takes_101 (lv_at hl_100 0 rfl) ?_
        refine lv_iconst (v := 4) hx hb dX8_takes_103 (by decide) ?_
        refine lv_icmp_ge (tgt := 138) hx hb dX8_takes_104 (by decide) (fun h9 => absurd h9 (by decide)) (fun _ => ?_)
        refine lv_aload_n hx hb dX8_takes_107 rfl (lv_at hl_100 3 rfl) ?_
        refine gM_v C hW (hwc hwX8) (mc qw_1481) dX8_takes_108 ?_
        refine lv_iload_n hx hb dX8_takes_111 rfl (lv_at hl_100 4 rfl) ?_
        refine lv_iload hx hb dX8_takes_112 (lv_at hl_100 0 rfl) ?_
        refine lv_iadd hx hb dX8_takes_114 ?_
        refine g_top (y := nI (i + 2)) (nI_add i 2) ?_
        refine gm_vld C hW (i + 2) (nI_clamp (by omega)) (vp_in_nI (show i + 2 < 128 by omega) (by decide)) dX8_takes_115 ?_
        refine g_top (y := zz (i + 2)) (congrFun (rd_in (by decide) rd_out) _) ?_
        refine lv_aload_n hx hb dX8_takes_116 rfl (lv_at hl_100 3 rfl) ?_
        refine gM_v C hW (hwc hwX8) (mc qw_1481) dX8_takes_117 ?_
        refine lv_iload_n hx hb dX8_takes_120 rfl (lv_at hl_100 4 rfl) ?_
        refine lv_iload hx hb dX8_takes_121 (lv_at hl_100 1 rfl) ?_
        refine lv_iadd hx hb dX8_takes_123 ?_
        refine g_top (y := (nI i)) (Int32.add_zero _) ?_
        refine gm_vld C hW i (nI_clamp (by omega)) (vp_in_nI (show i < 128 by omega) (by decide)) dX8_takes_124 ?_
        refine g_top (y := zz (i)) (congrFun (rd_in (by decide) rd_out) _) ?_
        refine lv_icmp_le (tgt := 132) hx hb dX8_takes_125 (by decide) (fun b_101 => ?_) (fun b_101 => ?_)
        · refine lv_iinc (v := 3) (lv' := [(6, .int 3), (5, .int 0), (4, .int lf), (0, .ref (ad G 723)), (1, .int (nI i))]) hx hb dX8_takes_132 hl_100 (k := 0) rfl (by decide) (by decide) rfl (fun ls_102 hl_103 => ?_)
          refine lv_goto (tgt := 101) hx hb dX8_takes_135 (by decide) ?_
          refine lv_iload hx hb dX8_takes_101 (lv_at hl_103 0 rfl) ?_
          refine lv_iconst (v := 4) hx hb dX8_takes_103 (by decide) ?_
          refine lv_icmp_ge (tgt := 138) hx hb dX8_takes_104 (by decide) (fun h9 => absurd h9 (by decide)) (fun _ => ?_)
          refine lv_aload_n hx hb dX8_takes_107 rfl (lv_at hl_103 3 rfl) ?_
          refine gM_v C hW (hwc hwX8) (mc qw_1481) dX8_takes_108 ?_
          refine lv_iload_n hx hb dX8_takes_111 rfl (lv_at hl_103 4 rfl) ?_
          refine lv_iload hx hb dX8_takes_112 (lv_at hl_103 0 rfl) ?_
          refine lv_iadd hx hb dX8_takes_114 ?_
          refine g_top (y := nI (i + 3)) (nI_add i 3) ?_
          refine gm_vld C hW (i + 3) (nI_clamp (by omega)) (vp_in_nI (show i + 3 < 128 by omega) (by decide)) dX8_takes_115 ?_
          refine g_top (y := zz (i + 3)) (congrFun (rd_in (by decide) rd_out) _) ?_
          refine lv_aload_n hx hb dX8_takes_116 rfl (lv_at hl_103 3 rfl) ?_
          refine gM_v C hW (hwc hwX8) (mc qw_1481) dX8_takes_117 ?_
          refine lv_iload_n hx hb dX8_takes_120 rfl (lv_at hl_103 4 rfl) ?_
          refine lv_iload hx hb dX8_takes_121 (lv_at hl_103 1 rfl) ?_
          refine lv_iadd hx hb dX8_takes_123 ?_
          refine g_top (y := (nI i)) (Int32.add_zero _) ?_
          refine gm_vld C hW i (nI_clamp (by omega)) (vp_in_nI (show i < 128 by omega) (by decide)) dX8_takes_124 ?_
          refine g_top (y := zz (i)) (congrFun (rd_in (by decide) rd_out) _) ?_
          refine lv_icmp_le (tgt := 132) hx hb dX8_takes_125 (by decide) (fun b_104 => ?_) (fun b_104 => ?_)
          · refine lv_iinc (v := 4) (lv' := [(6, .int 4), (5, .int 0), (4, .int lf), (0, .ref (ad G 723)), (1, .int (nI i))]) hx hb dX8_takes_132 hl_103 (k := 0) rfl (by decide) (by decide) rfl (fun ls_105 hl_106 => ?_)
            refine lv_goto (tgt := 101) hx hb dX8_takes_135 (by decide) ?_
            refine lv_iload hx hb dX8_takes_101 (lv_at hl_106 0 rfl) ?_
            refine lv_iconst (v := 4) hx hb dX8_takes_103 (by decide) ?_
            refine lv_icmp_ge (tgt := 138) hx hb dX8_takes_104 (by decide) (fun _ => ?_) (fun h9 => absurd h9 (by decide))
            refine lv_aload_n hx hb dX8_takes_138 rfl (lv_at hl_106 3 rfl) ?_
            refine gM_v C hW (hwc hwX8) (mc qw_1481) dX8_takes_139 ?_
            refine lv_iload_n hx hb dX8_takes_142 rfl (lv_at hl_106 4 rfl) ?_
            refine lv_iload hx hb dX8_takes_143 (lv_at hl_106 1 rfl) ?_
            refine lv_iadd hx hb dX8_takes_145 ?_
            refine g_top (y := (nI i)) (Int32.add_zero _) ?_
            refine lv_dup2_11 hx hb dX8_takes_146 rfl rfl ?_
            refine gm_vld C hW i (nI_clamp (by omega)) (vp_in_nI (show i < 128 by omega) (by decide)) dX8_takes_147 ?_
            refine g_top (y := zz (i)) (congrFun (rd_in (by decide) rd_out) _) ?_
            refine lv_iconst (v := 1) hx hb dX8_takes_148 (by decide) ?_
            refine lv_isub hx hb dX8_takes_149 ?_
            refine gm_vst C hW hS i (nI_clamp (by omega)) (vp_in_nI (show i < 128 by omega) (by decide)) dX8_takes_150 (fun H_107 locs_108 hW_109 hS_110 => ?_)
            obtain ⟨w_111, ew_111⟩ : ∃ Z9, Z9 = upd zz (i) ((zz (i)) - 1) := ⟨_, rfl⟩
            have hW_112 : Wd G (setRow (setRow X 16 w_111) 20 pp) H_107 := Wd.cast (by rw [ew_111]; exact (st_in (by decide) st_out)) hW_109
            refine lv_aload_n hx hb dX8_takes_151 rfl (lv_at hl_106 3 rfl) ?_
            refine gM_part C hW_112 (hwc hwX8) (mc qw_1485) dX8_takes_152 ?_
            refine lv_iload hx hb dX8_takes_155 (lv_at hl_106 1 rfl) ?_
            refine lv_dup2_11 hx hb dX8_takes_157 rfl rfl ?_
            refine gm_partld C hW_112 0 (by decide) (vlit (by decide)) dX8_takes_158 ?_
            refine g_top (y := pp (0)) (congrFun rd_out _) ?_
            refine lv_iconst (v := 1) hx hb dX8_takes_159 (by decide) ?_
            refine lv_iadd hx hb dX8_takes_160 ?_
            refine gm_partst C hW_112 hS_110 0 (by decide) (vlit (by decide)) dX8_takes_161 (fun H_113 locs_114 hW_115 hS_116 => ?_)
            obtain ⟨w_117, ew_117⟩ : ∃ Z9, Z9 = upd pp (0) ((pp (0)) + 1) := ⟨_, rfl⟩
            have hW_118 : Wd G (setRow (setRow X 16 w_111) 20 w_117) H_113 := Wd.cast (by rw [ew_117]; exact st_out) hW_115
            obtain ⟨v_119, ev_119⟩ : ∃ Y9 : Int32, Y9 = lf + (-1) := ⟨_, rfl⟩
            refine lv_iinc (v := v_119) (lv' := [(4, .int v_119), (6, .int 4), (5, .int 0), (0, .ref (ad G 723)), (1, .int (nI i))]) hx hb dX8_takes_162 hl_106 (k := 2) rfl (by rw [ev_119]; rfl) (by decide) rfl (fun ls_120 hl_121 => ?_)
            refine lv_goto (tgt := 90) hx hb dX8_takes_165 (by decide) ?_
            exact ih w_111 w_117 v_119 H_113 locs_114 ls_120 (by subst ev_119; subst ew_117; subst ew_111; exact cnt_p hq) (by subst ev_119; subst ew_117; subst ew_111; rw [tkL] at hf; simp only [best4, best3, stepB, Nat.add_zero, b_98, b_101, b_104, if_true, if_false] at hf; exact hf) hW_118 hS_116 (lv_sub hl_121 [0, 3, 4] rfl)
          · refine lv_iload hx hb dX8_takes_128 (lv_at hl_103 0 rfl) ?_
            refine lv_istore (lv' := [(5, .int 3), (6, .int 3), (4, .int lf), (0, .ref (ad G 723)), (1, .int (nI i))]) hx hb dX8_takes_130 hl_103 (by decide) rfl (fun ls_122 hl_123 => ?_)
            refine lv_iinc (v := 4) (lv' := [(6, .int 4), (5, .int 3), (4, .int lf), (0, .ref (ad G 723)), (1, .int (nI i))]) hx hb dX8_takes_132 hl_123 (k := 1) rfl (by decide) (by decide) rfl (fun ls_124 hl_125 => ?_)
            refine lv_goto (tgt := 101) hx hb dX8_takes_135 (by decide) ?_
            refine lv_iload hx hb dX8_takes_101 (lv_at hl_125 0 rfl) ?_
            refine lv_iconst (v := 4) hx hb dX8_takes_103 (by decide) ?_
            refine lv_icmp_ge (tgt := 138) hx hb dX8_takes_104 (by decide) (fun _ => ?_) (fun h9 => absurd h9 (by decide))
            refine lv_aload_n hx hb dX8_takes_138 rfl (lv_at hl_125 3 rfl) ?_
            refine gM_v C hW (hwc hwX8) (mc qw_1481) dX8_takes_139 ?_
            refine lv_iload_n hx hb dX8_takes_142 rfl (lv_at hl_125 4 rfl) ?_
            refine lv_iload hx hb dX8_takes_143 (lv_at hl_125 1 rfl) ?_
            refine lv_iadd hx hb dX8_takes_145 ?_
            refine g_top (y := nI (i + 3)) (nI_add i 3) ?_
            refine lv_dup2_11 hx hb dX8_takes_146 rfl rfl ?_
            refine gm_vld C hW (i + 3) (nI_clamp (by omega)) (vp_in_nI (show i + 3 < 128 by omega) (by decide)) dX8_takes_147 ?_
            refine g_top (y := zz (i + 3)) (congrFun (rd_in (by decide) rd_out) _) ?_
            refine lv_iconst (v := 1) hx hb dX8_takes_148 (by decide) ?_
            refine lv_isub hx hb dX8_takes_149 ?_
            refine gm_vst C hW hS (i + 3) (nI_clamp (by omega)) (vp_in_nI (show i + 3 < 128 by omega) (by decide)) dX8_takes_150 (fun H_126 locs_127 hW_128 hS_129 => ?_)
            obtain ⟨w_130, ew_130⟩ : ∃ Z9, Z9 = upd zz (i + 3) ((zz (i + 3)) - 1) := ⟨_, rfl⟩
            have hW_131 : Wd G (setRow (setRow X 16 w_130) 20 pp) H_126 := Wd.cast (by rw [ew_130]; exact (st_in (by decide) st_out)) hW_128
            refine lv_aload_n hx hb dX8_takes_151 rfl (lv_at hl_125 3 rfl) ?_
            refine gM_part C hW_131 (hwc hwX8) (mc qw_1485) dX8_takes_152 ?_
            refine lv_iload hx hb dX8_takes_155 (lv_at hl_125 1 rfl) ?_
            refine lv_dup2_11 hx hb dX8_takes_157 rfl rfl ?_
            refine gm_partld C hW_131 3 (by decide) (vlit (by decide)) dX8_takes_158 ?_
            refine g_top (y := pp (3)) (congrFun rd_out _) ?_
            refine lv_iconst (v := 1) hx hb dX8_takes_159 (by decide) ?_
            refine lv_iadd hx hb dX8_takes_160 ?_
            refine gm_partst C hW_131 hS_129 3 (by decide) (vlit (by decide)) dX8_takes_161 (fun H_132 locs_133 hW_134 hS_135 => ?_)
            obtain ⟨w_136, ew_136⟩ : ∃ Z9, Z9 = upd pp (3) ((pp (3)) + 1) := ⟨_, rfl⟩
            have hW_137 : Wd G (setRow (setRow X 16 w_130) 20 w_136) H_132 := Wd.cast (by rw [ew_136]; exact st_out) hW_134
            obtain ⟨v_138, ev_138⟩ : ∃ Y9 : Int32, Y9 = lf + (-1) := ⟨_, rfl⟩
            refine lv_iinc (v := v_138) (lv' := [(4, .int v_138), (6, .int 4), (5, .int 3), (0, .ref (ad G 723)), (1, .int (nI i))]) hx hb dX8_takes_162 hl_125 (k := 2) rfl (by rw [ev_138]; rfl) (by decide) rfl (fun ls_139 hl_140 => ?_)
            refine lv_goto (tgt := 90) hx hb dX8_takes_165 (by decide) ?_
            exact ih w_130 w_136 v_138 H_132 locs_133 ls_139 (by subst ev_138; subst ew_136; subst ew_130; exact cnt_p hq) (by subst ev_138; subst ew_136; subst ew_130; rw [tkL] at hf; simp only [best4, best3, stepB, Nat.add_zero, b_98, b_101, b_104, if_true, if_false] at hf; exact hf) hW_137 hS_135 (lv_sub hl_140 [0, 3, 4] rfl)
        · refine lv_iload hx hb dX8_takes_128 (lv_at hl_100 0 rfl) ?_
          refine lv_istore (lv' := [(5, .int 2), (6, .int 2), (4, .int lf), (0, .ref (ad G 723)), (1, .int (nI i))]) hx hb dX8_takes_130 hl_100 (by decide) rfl (fun ls_141 hl_142 => ?_)
          refine lv_iinc (v := 3) (lv' := [(6, .int 3), (5, .int 2), (4, .int lf), (0, .ref (ad G 723)), (1, .int (nI i))]) hx hb dX8_takes_132 hl_142 (k := 1) rfl (by decide) (by decide) rfl (fun ls_143 hl_144 => ?_)
          refine lv_goto (tgt := 101) hx hb dX8_takes_135 (by decide) ?_
          refine lv_iload hx hb dX8_takes_101 (lv_at hl_144 0 rfl) ?_
          refine lv_iconst (v := 4) hx hb dX8_takes_103 (by decide) ?_
          refine lv_icmp_ge (tgt := 138) hx hb dX8_takes_104 (by decide) (fun h9 => absurd h9 (by decide)) (fun _ => ?_)
          refine lv_aload_n hx hb dX8_takes_107 rfl (lv_at hl_144 3 rfl) ?_
          refine gM_v C hW (hwc hwX8) (mc qw_1481) dX8_takes_108 ?_
          refine lv_iload_n hx hb dX8_takes_111 rfl (lv_at hl_144 4 rfl) ?_
          refine lv_iload hx hb dX8_takes_112 (lv_at hl_144 0 rfl) ?_
          refine lv_iadd hx hb dX8_takes_114 ?_
          refine g_top (y := nI (i + 3)) (nI_add i 3) ?_
          refine gm_vld C hW (i + 3) (nI_clamp (by omega)) (vp_in_nI (show i + 3 < 128 by omega) (by decide)) dX8_takes_115 ?_
          refine g_top (y := zz (i + 3)) (congrFun (rd_in (by decide) rd_out) _) ?_
          refine lv_aload_n hx hb dX8_takes_116 rfl (lv_at hl_144 3 rfl) ?_
          refine gM_v C hW (hwc hwX8) (mc qw_1481) dX8_takes_117 ?_
          refine lv_iload_n hx hb dX8_takes_120 rfl (lv_at hl_144 4 rfl) ?_
          refine lv_iload hx hb dX8_takes_121 (lv_at hl_144 1 rfl) ?_
          refine lv_iadd hx hb dX8_takes_123 ?_
          refine g_top (y := nI (i + 2)) (nI_add i 2) ?_
          refine gm_vld C hW (i + 2) (nI_clamp (by omega)) (vp_in_nI (show i + 2 < 128 by omega) (by decide)) dX8_takes_124 ?_
          refine g_top (y := zz (i + 2)) (congrFun (rd_in (by decide) rd_out) _) ?_
          refine lv_icmp_le (tgt := 132) hx hb dX8_takes_125 (by decide) (fun b_145 => ?_) (fun b_145 => ?_)
          · refine lv_iinc (v := 4) (lv' := [(6, .int 4), (5, .int 2), (4, .int lf), (0, .ref (ad G 723)), (1, .int (nI i))]) hx hb dX8_takes_132 hl_144 (k := 0) rfl (by decide) (by decide) rfl (fun ls_146 hl_147 => ?_)
            refine lv_goto (tgt := 101) hx hb dX8_takes_135 (by decide) ?_
            refine lv_iload hx hb dX8_takes_101 (lv_at hl_147 0 rfl) ?_
            refine lv_iconst (v := 4) hx hb dX8_takes_103 (by decide) ?_
            refine lv_icmp_ge (tgt := 138) hx hb dX8_takes_104 (by decide) (fun _ => ?_) (fun h9 => absurd h9 (by decide))
            refine lv_aload_n hx hb dX8_takes_138 rfl (lv_at hl_147 3 rfl) ?_
            refine gM_v C hW (hwc hwX8) (mc qw_1481) dX8_takes_139 ?_
            refine lv_iload_n hx hb dX8_takes_142 rfl (lv_at hl_147 4 rfl) ?_
            refine lv_iload hx hb dX8_takes_143 (lv_at hl_147 1 rfl) ?_
            refine lv_iadd hx hb dX8_takes_145 ?_
            refine g_top (y := nI (i + 2)) (nI_add i 2) ?_
            refine lv_dup2_11 hx hb dX8_takes_146 rfl rfl ?_
            refine gm_vld C hW (i + 2) (nI_clamp (by omega)) (vp_in_nI (show i + 2 < 128 by omega) (by decide)) dX8_takes_147 ?_
            refine g_top (y := zz (i + 2)) (congrFun (rd_in (by decide) rd_out) _) ?_
            refine lv_iconst (v := 1) hx hb dX8_takes_148 (by decide) ?_
            refine lv_isub hx hb dX8_takes_149 ?_
            refine gm_vst C hW hS (i + 2) (nI_clamp (by omega)) (vp_in_nI (show i + 2 < 128 by omega) (by decide)) dX8_takes_150 (fun H_148 locs_149 hW_150 hS_151 => ?_)
            obtain ⟨w_152, ew_152⟩ : ∃ Z9, Z9 = upd zz (i + 2) ((zz (i + 2)) - 1) := ⟨_, rfl⟩
            have hW_153 : Wd G (setRow (setRow X 16 w_152) 20 pp) H_148 := Wd.cast (by rw [ew_152]; exact (st_in (by decide) st_out)) hW_150
            refine lv_aload_n hx hb dX8_takes_151 rfl (lv_at hl_147 3 rfl) ?_
            refine gM_part C hW_153 (hwc hwX8) (mc qw_1485) dX8_takes_152 ?_
            refine lv_iload hx hb dX8_takes_155 (lv_at hl_147 1 rfl) ?_
            refine lv_dup2_11 hx hb dX8_takes_157 rfl rfl ?_
            refine gm_partld C hW_153 2 (by decide) (vlit (by decide)) dX8_takes_158 ?_
            refine g_top (y := pp (2)) (congrFun rd_out _) ?_
            refine lv_iconst (v := 1) hx hb dX8_takes_159 (by decide) ?_
            refine lv_iadd hx hb dX8_takes_160 ?_
            refine gm_partst C hW_153 hS_151 2 (by decide) (vlit (by decide)) dX8_takes_161 (fun H_154 locs_155 hW_156 hS_157 => ?_)
            obtain ⟨w_158, ew_158⟩ : ∃ Z9, Z9 = upd pp (2) ((pp (2)) + 1) := ⟨_, rfl⟩
            have hW_159 : Wd G (setRow (setRow X 16 w_152) 20 w_158) H_154 := Wd.cast (by rw [ew_158]; exact st_out) hW_156
            obtain ⟨v_160, ev_160⟩ : ∃ Y9 : Int32, Y9 = lf + (-1) := ⟨_, rfl⟩
            refine lv_iinc (v := v_160) (lv' := [(4, .int v_160), (6, .int 4), (5, .int 2), (0, .ref (ad G 723)), (1, .int (nI i))]) hx hb dX8_takes_162 hl_147 (k := 2) rfl (by rw [ev_160]; rfl) (by decide) rfl (fun ls_161 hl_162 => ?_)
            refine lv_goto (tgt := 90) hx hb dX8_takes_165 (by decide) ?_
            exact ih w_152 w_158 v_160 H_154 locs_155 ls_161 (by subst ev_160; subst ew_158; subst ew_152; exact cnt_p hq) (by subst ev_160; subst ew_158; subst ew_152; rw [tkL] at hf; simp only [best4, best3, stepB, Nat.add_zero, b_98, b_101, b_145, if_true, if_false] at hf; exact hf) hW_159 hS_157 (lv_sub hl_162 [0, 3, 4] rfl)
          · refine lv_iload hx hb dX8_takes_128 (lv_at hl_144 0 rfl) ?_
            refine lv_istore (lv' := [(5, .int 3), (6, .int 3), (4, .int lf), (0, .ref (ad G 723)), (1, .int (nI i))]) hx hb dX8_takes_130 hl_144 (by decide) rfl (fun ls_163 hl_164 => ?_)
            refine lv_iinc (v := 4) (lv' := [(6, .int 4), (5, .int 3), (4, .int lf), (0, .ref (ad G 723)), (1, .int (nI i))]) hx hb dX8_takes_132 hl_164 (k := 1) rfl (by decide) (by decide) rfl (fun ls_165 hl_166 => ?_)
            refine lv_goto (tgt := 101) hx hb dX8_takes_135 (by decide) ?_
            refine lv_iload hx hb dX8_takes_101 (lv_at hl_166 0 rfl) ?_
            refine lv_iconst (v := 4) hx hb dX8_takes_103 (by decide) ?_
            refine lv_icmp_ge (tgt := 138) hx hb dX8_takes_104 (by decide) (fun _ => ?_) (fun h9 => absurd h9 (by decide))
            refine lv_aload_n hx hb dX8_takes_138 rfl (lv_at hl_166 3 rfl) ?_
            refine gM_v C hW (hwc hwX8) (mc qw_1481) dX8_takes_139 ?_
            refine lv_iload_n hx hb dX8_takes_142 rfl (lv_at hl_166 4 rfl) ?_
            refine lv_iload hx hb dX8_takes_143 (lv_at hl_166 1 rfl) ?_
            refine lv_iadd hx hb dX8_takes_145 ?_
            refine g_top (y := nI (i + 3)) (nI_add i 3) ?_
            refine lv_dup2_11 hx hb dX8_takes_146 rfl rfl ?_
            refine gm_vld C hW (i + 3) (nI_clamp (by omega)) (vp_in_nI (show i + 3 < 128 by omega) (by decide)) dX8_takes_147 ?_
            refine g_top (y := zz (i + 3)) (congrFun (rd_in (by decide) rd_out) _) ?_
            refine lv_iconst (v := 1) hx hb dX8_takes_148 (by decide) ?_
            refine lv_isub hx hb dX8_takes_149 ?_
            refine gm_vst C hW hS (i + 3) (nI_clamp (by omega)) (vp_in_nI (show i + 3 < 128 by omega) (by decide)) dX8_takes_150 (fun H_167 locs_168 hW_169 hS_170 => ?_)
            obtain ⟨w_171, ew_171⟩ : ∃ Z9, Z9 = upd zz (i + 3) ((zz (i + 3)) - 1) := ⟨_, rfl⟩
            have hW_172 : Wd G (setRow (setRow X 16 w_171) 20 pp) H_167 := Wd.cast (by rw [ew_171]; exact (st_in (by decide) st_out)) hW_169
            refine lv_aload_n hx hb dX8_takes_151 rfl (lv_at hl_166 3 rfl) ?_
            refine gM_part C hW_172 (hwc hwX8) (mc qw_1485) dX8_takes_152 ?_
            refine lv_iload hx hb dX8_takes_155 (lv_at hl_166 1 rfl) ?_
            refine lv_dup2_11 hx hb dX8_takes_157 rfl rfl ?_
            refine gm_partld C hW_172 3 (by decide) (vlit (by decide)) dX8_takes_158 ?_
            refine g_top (y := pp (3)) (congrFun rd_out _) ?_
            refine lv_iconst (v := 1) hx hb dX8_takes_159 (by decide) ?_
            refine lv_iadd hx hb dX8_takes_160 ?_
            refine gm_partst C hW_172 hS_170 3 (by decide) (vlit (by decide)) dX8_takes_161 (fun H_173 locs_174 hW_175 hS_176 => ?_)
            obtain ⟨w_177, ew_177⟩ : ∃ Z9, Z9 = upd pp (3) ((pp (3)) + 1) := ⟨_, rfl⟩
            have hW_178 : Wd G (setRow (setRow X 16 w_171) 20 w_177) H_173 := Wd.cast (by rw [ew_177]; exact st_out) hW_175
            obtain ⟨v_179, ev_179⟩ : ∃ Y9 : Int32, Y9 = lf + (-1) := ⟨_, rfl⟩
            refine lv_iinc (v := v_179) (lv' := [(4, .int v_179), (6, .int 4), (5, .int 3), (0, .ref (ad G 723)), (1, .int (nI i))]) hx hb dX8_takes_162 hl_166 (k := 2) rfl (by rw [ev_179]; rfl) (by decide) rfl (fun ls_180 hl_181 => ?_)
            refine lv_goto (tgt := 90) hx hb dX8_takes_165 (by decide) ?_
            exact ih w_171 w_177 v_179 H_173 locs_174 ls_180 (by subst ev_179; subst ew_177; subst ew_171; exact cnt_p hq) (by subst ev_179; subst ew_177; subst ew_171; rw [tkL] at hf; simp only [best4, best3, stepB, Nat.add_zero, b_98, b_101, b_145, if_true, if_false] at hf; exact hf) hW_178 hS_176 (lv_sub hl_181 [0, 3, 4] rfl)
      · refine lv_iload hx hb dX8_takes_128 (lv_at hl_97 0 rfl) ?_
        refine lv_istore (lv' := [(5, .int 1), (6, .int 1), (4, .int lf), (0, .ref (ad G 723)), (1, .int (nI i))]) hx hb dX8_takes_130 hl_97 (by decide) rfl (fun ls_182 hl_183 => ?_)
        refine lv_iinc (v := 2) (lv' := [(6, .int 2), (5, .int 1), (4, .int lf), (0, .ref (ad G 723)), (1, .int (nI i))]) hx hb dX8_takes_132 hl_183 (k := 1) rfl (by decide) (by decide) rfl (fun ls_184 hl_185 => ?_)
        refine lv_goto (tgt := 101) hx hb dX8_takes_135 (by decide) ?_
        refine lv_iload hx hb dX8_takes_101 (lv_at hl_185 0 rfl) ?_
        refine lv_iconst (v := 4) hx hb dX8_takes_103 (by decide) ?_
        refine lv_icmp_ge (tgt := 138) hx hb dX8_takes_104 (by decide) (fun h9 => absurd h9 (by decide)) (fun _ => ?_)
        refine lv_aload_n hx hb dX8_takes_107 rfl (lv_at hl_185 3 rfl) ?_
        refine gM_v C hW (hwc hwX8) (mc qw_1481) dX8_takes_108 ?_
        refine lv_iload_n hx hb dX8_takes_111 rfl (lv_at hl_185 4 rfl) ?_
        refine lv_iload hx hb dX8_takes_112 (lv_at hl_185 0 rfl) ?_
        refine lv_iadd hx hb dX8_takes_114 ?_
        refine g_top (y := nI (i + 2)) (nI_add i 2) ?_
        refine gm_vld C hW (i + 2) (nI_clamp (by omega)) (vp_in_nI (show i + 2 < 128 by omega) (by decide)) dX8_takes_115 ?_
        refine g_top (y := zz (i + 2)) (congrFun (rd_in (by decide) rd_out) _) ?_
        refine lv_aload_n hx hb dX8_takes_116 rfl (lv_at hl_185 3 rfl) ?_
        refine gM_v C hW (hwc hwX8) (mc qw_1481) dX8_takes_117 ?_
        refine lv_iload_n hx hb dX8_takes_120 rfl (lv_at hl_185 4 rfl) ?_
        refine lv_iload hx hb dX8_takes_121 (lv_at hl_185 1 rfl) ?_
        refine lv_iadd hx hb dX8_takes_123 ?_
        refine g_top (y := nI (i + 1)) (nI_add i 1) ?_
        refine gm_vld C hW (i + 1) (nI_clamp (by omega)) (vp_in_nI (show i + 1 < 128 by omega) (by decide)) dX8_takes_124 ?_
        refine g_top (y := zz (i + 1)) (congrFun (rd_in (by decide) rd_out) _) ?_
        refine lv_icmp_le (tgt := 132) hx hb dX8_takes_125 (by decide) (fun b_186 => ?_) (fun b_186 => ?_)
        · refine lv_iinc (v := 3) (lv' := [(6, .int 3), (5, .int 1), (4, .int lf), (0, .ref (ad G 723)), (1, .int (nI i))]) hx hb dX8_takes_132 hl_185 (k := 0) rfl (by decide) (by decide) rfl (fun ls_187 hl_188 => ?_)
          refine lv_goto (tgt := 101) hx hb dX8_takes_135 (by decide) ?_
          refine lv_iload hx hb dX8_takes_101 (lv_at hl_188 0 rfl) ?_
          refine lv_iconst (v := 4) hx hb dX8_takes_103 (by decide) ?_
          refine lv_icmp_ge (tgt := 138) hx hb dX8_takes_104 (by decide) (fun h9 => absurd h9 (by decide)) (fun _ => ?_)
          refine lv_aload_n hx hb dX8_takes_107 rfl (lv_at hl_188 3 rfl) ?_
          refine gM_v C hW (hwc hwX8) (mc qw_1481) dX8_takes_108 ?_
          refine lv_iload_n hx hb dX8_takes_111 rfl (lv_at hl_188 4 rfl) ?_
          refine lv_iload hx hb dX8_takes_112 (lv_at hl_188 0 rfl) ?_
          refine lv_iadd hx hb dX8_takes_114 ?_
          refine g_top (y := nI (i + 3)) (nI_add i 3) ?_
          refine gm_vld C hW (i + 3) (nI_clamp (by omega)) (vp_in_nI (show i + 3 < 128 by omega) (by decide)) dX8_takes_115 ?_
          refine g_top (y := zz (i + 3)) (congrFun (rd_in (by decide) rd_out) _) ?_
          refine lv_aload_n hx hb dX8_takes_116 rfl (lv_at hl_188 3 rfl) ?_
          refine gM_v C hW (hwc hwX8) (mc qw_1481) dX8_takes_117 ?_
          refine lv_iload_n hx hb dX8_takes_120 rfl (lv_at hl_188 4 rfl) ?_
          refine lv_iload hx hb dX8_takes_121 (lv_at hl_188 1 rfl) ?_
          refine lv_iadd hx hb dX8_takes_123 ?_
          refine g_top (y := nI (i + 1)) (nI_add i 1) ?_
          refine gm_vld C hW (i + 1) (nI_clamp (by omega)) (vp_in_nI (show i + 1 < 128 by omega) (by decide)) dX8_takes_124 ?_
          refine g_top (y := zz (i + 1)) (congrFun (rd_in (by decide) rd_out) _) ?_
          refine lv_icmp_le (tgt := 132) hx hb dX8_takes_125 (by decide) (fun b_189 => ?_) (fun b_189 => ?_)
          · refine lv_iinc (v := 4) (lv' := [(6, .int 4), (5, .int 1), (4, .int lf), (0, .ref (ad G 723)), (1, .int (nI i))]) hx hb dX8_takes_132 hl_188 (k := 0) rfl (by decide) (by decide) rfl (fun ls_190 hl_191 => ?_)
            refine lv_goto (tgt := 101) hx hb dX8_takes_135 (by decide) ?_
            refine lv_iload hx hb dX8_takes_101 (lv_at hl_191 0 rfl) ?_
            refine lv_iconst (v := 4) hx hb dX8_takes_103 (by decide) ?_
            refine lv_icmp_ge (tgt := 138) hx hb dX8_takes_104 (by decide) (fun _ => ?_) (fun h9 => absurd h9 (by decide))
            refine lv_aload_n hx hb dX8_takes_138 rfl (lv_at hl_191 3 rfl) ?_
            refine gM_v C hW (hwc hwX8) (mc qw_1481) dX8_takes_139 ?_
            refine lv_iload_n hx hb dX8_takes_142 rfl (lv_at hl_191 4 rfl) ?_
            refine lv_iload hx hb dX8_takes_143 (lv_at hl_191 1 rfl) ?_
            refine lv_iadd hx hb dX8_takes_145 ?_
            refine g_top (y := nI (i + 1)) (nI_add i 1) ?_
            refine lv_dup2_11 hx hb dX8_takes_146 rfl rfl ?_
            refine gm_vld C hW (i + 1) (nI_clamp (by omega)) (vp_in_nI (show i + 1 < 128 by omega) (by decide)) dX8_takes_147 ?_
            refine g_top (y := zz (i + 1)) (congrFun (rd_in (by decide) rd_out) _) ?_
            refine lv_iconst (v := 1) hx hb dX8_takes_148 (by decide) ?_
            refine lv_isub hx hb dX8_takes_149 ?_
            refine gm_vst C hW hS (i + 1) (nI_clamp (by omega)) (vp_in_nI (show i + 1 < 128 by omega) (by decide)) dX8_takes_150 (fun H_192 locs_193 hW_194 hS_195 => ?_)
            obtain ⟨w_196, ew_196⟩ : ∃ Z9, Z9 = upd zz (i + 1) ((zz (i + 1)) - 1) := ⟨_, rfl⟩
            have hW_197 : Wd G (setRow (setRow X 16 w_196) 20 pp) H_192 := Wd.cast (by rw [ew_196]; exact (st_in (by decide) st_out)) hW_194
            refine lv_aload_n hx hb dX8_takes_151 rfl (lv_at hl_191 3 rfl) ?_
            refine gM_part C hW_197 (hwc hwX8) (mc qw_1485) dX8_takes_152 ?_
            refine lv_iload hx hb dX8_takes_155 (lv_at hl_191 1 rfl) ?_
            refine lv_dup2_11 hx hb dX8_takes_157 rfl rfl ?_
            refine gm_partld C hW_197 1 (by decide) (vlit (by decide)) dX8_takes_158 ?_
            refine g_top (y := pp (1)) (congrFun rd_out _) ?_
            refine lv_iconst (v := 1) hx hb dX8_takes_159 (by decide) ?_
            refine lv_iadd hx hb dX8_takes_160 ?_
            refine gm_partst C hW_197 hS_195 1 (by decide) (vlit (by decide)) dX8_takes_161 (fun H_198 locs_199 hW_200 hS_201 => ?_)
            obtain ⟨w_202, ew_202⟩ : ∃ Z9, Z9 = upd pp (1) ((pp (1)) + 1) := ⟨_, rfl⟩
            have hW_203 : Wd G (setRow (setRow X 16 w_196) 20 w_202) H_198 := Wd.cast (by rw [ew_202]; exact st_out) hW_200
            obtain ⟨v_204, ev_204⟩ : ∃ Y9 : Int32, Y9 = lf + (-1) := ⟨_, rfl⟩
            refine lv_iinc (v := v_204) (lv' := [(4, .int v_204), (6, .int 4), (5, .int 1), (0, .ref (ad G 723)), (1, .int (nI i))]) hx hb dX8_takes_162 hl_191 (k := 2) rfl (by rw [ev_204]; rfl) (by decide) rfl (fun ls_205 hl_206 => ?_)
            refine lv_goto (tgt := 90) hx hb dX8_takes_165 (by decide) ?_
            exact ih w_196 w_202 v_204 H_198 locs_199 ls_205 (by subst ev_204; subst ew_202; subst ew_196; exact cnt_p hq) (by subst ev_204; subst ew_202; subst ew_196; rw [tkL] at hf; simp only [best4, best3, stepB, Nat.add_zero, b_98, b_186, b_189, if_true, if_false] at hf; exact hf) hW_203 hS_201 (lv_sub hl_206 [0, 3, 4] rfl)
          · refine lv_iload hx hb dX8_takes_128 (lv_at hl_188 0 rfl) ?_
            refine lv_istore (lv' := [(5, .int 3), (6, .int 3), (4, .int lf), (0, .ref (ad G 723)), (1, .int (nI i))]) hx hb dX8_takes_130 hl_188 (by decide) rfl (fun ls_207 hl_208 => ?_)
            refine lv_iinc (v := 4) (lv' := [(6, .int 4), (5, .int 3), (4, .int lf), (0, .ref (ad G 723)), (1, .int (nI i))]) hx hb dX8_takes_132 hl_208 (k := 1) rfl (by decide) (by decide) rfl (fun ls_209 hl_210 => ?_)
            refine lv_goto (tgt := 101) hx hb dX8_takes_135 (by decide) ?_
            refine lv_iload hx hb dX8_takes_101 (lv_at hl_210 0 rfl) ?_
            refine lv_iconst (v := 4) hx hb dX8_takes_103 (by decide) ?_
            refine lv_icmp_ge (tgt := 138) hx hb dX8_takes_104 (by decide) (fun _ => ?_) (fun h9 => absurd h9 (by decide))
            refine lv_aload_n hx hb dX8_takes_138 rfl (lv_at hl_210 3 rfl) ?_
            refine gM_v C hW (hwc hwX8) (mc qw_1481) dX8_takes_139 ?_
            refine lv_iload_n hx hb dX8_takes_142 rfl (lv_at hl_210 4 rfl) ?_
            refine lv_iload hx hb dX8_takes_143 (lv_at hl_210 1 rfl) ?_
            refine lv_iadd hx hb dX8_takes_145 ?_
            refine g_top (y := nI (i + 3)) (nI_add i 3) ?_
            refine lv_dup2_11 hx hb dX8_takes_146 rfl rfl ?_
            refine gm_vld C hW (i + 3) (nI_clamp (by omega)) (vp_in_nI (show i + 3 < 128 by omega) (by decide)) dX8_takes_147 ?_
            refine g_top (y := zz (i + 3)) (congrFun (rd_in (by decide) rd_out) _) ?_
            refine lv_iconst (v := 1) hx hb dX8_takes_148 (by decide) ?_
            refine lv_isub hx hb dX8_takes_149 ?_
            refine gm_vst C hW hS (i + 3) (nI_clamp (by omega)) (vp_in_nI (show i + 3 < 128 by omega) (by decide)) dX8_takes_150 (fun H_211 locs_212 hW_213 hS_214 => ?_)
            obtain ⟨w_215, ew_215⟩ : ∃ Z9, Z9 = upd zz (i + 3) ((zz (i + 3)) - 1) := ⟨_, rfl⟩
            have hW_216 : Wd G (setRow (setRow X 16 w_215) 20 pp) H_211 := Wd.cast (by rw [ew_215]; exact (st_in (by decide) st_out)) hW_213
            refine lv_aload_n hx hb dX8_takes_151 rfl (lv_at hl_210 3 rfl) ?_
            refine gM_part C hW_216 (hwc hwX8) (mc qw_1485) dX8_takes_152 ?_
            refine lv_iload hx hb dX8_takes_155 (lv_at hl_210 1 rfl) ?_
            refine lv_dup2_11 hx hb dX8_takes_157 rfl rfl ?_
            refine gm_partld C hW_216 3 (by decide) (vlit (by decide)) dX8_takes_158 ?_
            refine g_top (y := pp (3)) (congrFun rd_out _) ?_
            refine lv_iconst (v := 1) hx hb dX8_takes_159 (by decide) ?_
            refine lv_iadd hx hb dX8_takes_160 ?_
            refine gm_partst C hW_216 hS_214 3 (by decide) (vlit (by decide)) dX8_takes_161 (fun H_217 locs_218 hW_219 hS_220 => ?_)
            obtain ⟨w_221, ew_221⟩ : ∃ Z9, Z9 = upd pp (3) ((pp (3)) + 1) := ⟨_, rfl⟩
            have hW_222 : Wd G (setRow (setRow X 16 w_215) 20 w_221) H_217 := Wd.cast (by rw [ew_221]; exact st_out) hW_219
            obtain ⟨v_223, ev_223⟩ : ∃ Y9 : Int32, Y9 = lf + (-1) := ⟨_, rfl⟩
            refine lv_iinc (v := v_223) (lv' := [(4, .int v_223), (6, .int 4), (5, .int 3), (0, .ref (ad G 723)), (1, .int (nI i))]) hx hb dX8_takes_162 hl_210 (k := 2) rfl (by rw [ev_223]; rfl) (by decide) rfl (fun ls_224 hl_225 => ?_)
            refine lv_goto (tgt := 90) hx hb dX8_takes_165 (by decide) ?_
            exact ih w_215 w_221 v_223 H_217 locs_218 ls_224 (by subst ev_223; subst ew_221; subst ew_215; exact cnt_p hq) (by subst ev_223; subst ew_221; subst ew_215; rw [tkL] at hf; simp only [best4, best3, stepB, Nat.add_zero, b_98, b_186, b_189, if_true, if_false] at hf; exact hf) hW_222 hS_220 (lv_sub hl_225 [0, 3, 4] rfl)
        · refine lv_iload hx hb dX8_takes_128 (lv_at hl_185 0 rfl) ?_
          refine lv_istore (lv' := [(5, .int 2), (6, .int 2), (4, .int lf), (0, .ref (ad G 723)), (1, .int (nI i))]) hx hb dX8_takes_130 hl_185 (by decide) rfl (fun ls_226 hl_227 => ?_)
          refine lv_iinc (v := 3) (lv' := [(6, .int 3), (5, .int 2), (4, .int lf), (0, .ref (ad G 723)), (1, .int (nI i))]) hx hb dX8_takes_132 hl_227 (k := 1) rfl (by decide) (by decide) rfl (fun ls_228 hl_229 => ?_)
          refine lv_goto (tgt := 101) hx hb dX8_takes_135 (by decide) ?_
          refine lv_iload hx hb dX8_takes_101 (lv_at hl_229 0 rfl) ?_
          refine lv_iconst (v := 4) hx hb dX8_takes_103 (by decide) ?_
          refine lv_icmp_ge (tgt := 138) hx hb dX8_takes_104 (by decide) (fun h9 => absurd h9 (by decide)) (fun _ => ?_)
          refine lv_aload_n hx hb dX8_takes_107 rfl (lv_at hl_229 3 rfl) ?_
          refine gM_v C hW (hwc hwX8) (mc qw_1481) dX8_takes_108 ?_
          refine lv_iload_n hx hb dX8_takes_111 rfl (lv_at hl_229 4 rfl) ?_
          refine lv_iload hx hb dX8_takes_112 (lv_at hl_229 0 rfl) ?_
          refine lv_iadd hx hb dX8_takes_114 ?_
          refine g_top (y := nI (i + 3)) (nI_add i 3) ?_
          refine gm_vld C hW (i + 3) (nI_clamp (by omega)) (vp_in_nI (show i + 3 < 128 by omega) (by decide)) dX8_takes_115 ?_
          refine g_top (y := zz (i + 3)) (congrFun (rd_in (by decide) rd_out) _) ?_
          refine lv_aload_n hx hb dX8_takes_116 rfl (lv_at hl_229 3 rfl) ?_
          refine gM_v C hW (hwc hwX8) (mc qw_1481) dX8_takes_117 ?_
          refine lv_iload_n hx hb dX8_takes_120 rfl (lv_at hl_229 4 rfl) ?_
          refine lv_iload hx hb dX8_takes_121 (lv_at hl_229 1 rfl) ?_
          refine lv_iadd hx hb dX8_takes_123 ?_
          refine g_top (y := nI (i + 2)) (nI_add i 2) ?_
          refine gm_vld C hW (i + 2) (nI_clamp (by omega)) (vp_in_nI (show i + 2 < 128 by omega) (by decide)) dX8_takes_124 ?_
          refine g_top (y := zz (i + 2)) (congrFun (rd_in (by decide) rd_out) _) ?_
          refine lv_icmp_le (tgt := 132) hx hb dX8_takes_125 (by decide) (fun b_230 => ?_) (fun b_230 => ?_)
          · refine lv_iinc (v := 4) (lv' := [(6, .int 4), (5, .int 2), (4, .int lf), (0, .ref (ad G 723)), (1, .int (nI i))]) hx hb dX8_takes_132 hl_229 (k := 0) rfl (by decide) (by decide) rfl (fun ls_231 hl_232 => ?_)
            refine lv_goto (tgt := 101) hx hb dX8_takes_135 (by decide) ?_
            refine lv_iload hx hb dX8_takes_101 (lv_at hl_232 0 rfl) ?_
            refine lv_iconst (v := 4) hx hb dX8_takes_103 (by decide) ?_
            refine lv_icmp_ge (tgt := 138) hx hb dX8_takes_104 (by decide) (fun _ => ?_) (fun h9 => absurd h9 (by decide))
            refine lv_aload_n hx hb dX8_takes_138 rfl (lv_at hl_232 3 rfl) ?_
            refine gM_v C hW (hwc hwX8) (mc qw_1481) dX8_takes_139 ?_
            refine lv_iload_n hx hb dX8_takes_142 rfl (lv_at hl_232 4 rfl) ?_
            refine lv_iload hx hb dX8_takes_143 (lv_at hl_232 1 rfl) ?_
            refine lv_iadd hx hb dX8_takes_145 ?_
            refine g_top (y := nI (i + 2)) (nI_add i 2) ?_
            refine lv_dup2_11 hx hb dX8_takes_146 rfl rfl ?_
            refine gm_vld C hW (i + 2) (nI_clamp (by omega)) (vp_in_nI (show i + 2 < 128 by omega) (by decide)) dX8_takes_147 ?_
            refine g_top (y := zz (i + 2)) (congrFun (rd_in (by decide) rd_out) _) ?_
            refine lv_iconst (v := 1) hx hb dX8_takes_148 (by decide) ?_
            refine lv_isub hx hb dX8_takes_149 ?_
            refine gm_vst C hW hS (i + 2) (nI_clamp (by omega)) (vp_in_nI (show i + 2 < 128 by omega) (by decide)) dX8_takes_150 (fun H_233 locs_234 hW_235 hS_236 => ?_)
            obtain ⟨w_237, ew_237⟩ : ∃ Z9, Z9 = upd zz (i + 2) ((zz (i + 2)) - 1) := ⟨_, rfl⟩
            have hW_238 : Wd G (setRow (setRow X 16 w_237) 20 pp) H_233 := Wd.cast (by rw [ew_237]; exact (st_in (by decide) st_out)) hW_235
            refine lv_aload_n hx hb dX8_takes_151 rfl (lv_at hl_232 3 rfl) ?_
            refine gM_part C hW_238 (hwc hwX8) (mc qw_1485) dX8_takes_152 ?_
            refine lv_iload hx hb dX8_takes_155 (lv_at hl_232 1 rfl) ?_
            refine lv_dup2_11 hx hb dX8_takes_157 rfl rfl ?_
            refine gm_partld C hW_238 2 (by decide) (vlit (by decide)) dX8_takes_158 ?_
            refine g_top (y := pp (2)) (congrFun rd_out _) ?_
            refine lv_iconst (v := 1) hx hb dX8_takes_159 (by decide) ?_
            refine lv_iadd hx hb dX8_takes_160 ?_
            refine gm_partst C hW_238 hS_236 2 (by decide) (vlit (by decide)) dX8_takes_161 (fun H_239 locs_240 hW_241 hS_242 => ?_)
            obtain ⟨w_243, ew_243⟩ : ∃ Z9, Z9 = upd pp (2) ((pp (2)) + 1) := ⟨_, rfl⟩
            have hW_244 : Wd G (setRow (setRow X 16 w_237) 20 w_243) H_239 := Wd.cast (by rw [ew_243]; exact st_out) hW_241
            obtain ⟨v_245, ev_245⟩ : ∃ Y9 : Int32, Y9 = lf + (-1) := ⟨_, rfl⟩
            refine lv_iinc (v := v_245) (lv' := [(4, .int v_245), (6, .int 4), (5, .int 2), (0, .ref (ad G 723)), (1, .int (nI i))]) hx hb dX8_takes_162 hl_232 (k := 2) rfl (by rw [ev_245]; rfl) (by decide) rfl (fun ls_246 hl_247 => ?_)
            refine lv_goto (tgt := 90) hx hb dX8_takes_165 (by decide) ?_
            exact ih w_237 w_243 v_245 H_239 locs_240 ls_246 (by subst ev_245; subst ew_243; subst ew_237; exact cnt_p hq) (by subst ev_245; subst ew_243; subst ew_237; rw [tkL] at hf; simp only [best4, best3, stepB, Nat.add_zero, b_98, b_186, b_230, if_true, if_false] at hf; exact hf) hW_244 hS_242 (lv_sub hl_247 [0, 3, 4] rfl)
          · refine lv_iload hx hb dX8_takes_128 (lv_at hl_229 0 rfl) ?_
            refine lv_istore (lv' := [(5, .int 3), (6, .int 3), (4, .int lf), (0, .ref (ad G 723)), (1, .int (nI i))]) hx hb dX8_takes_130 hl_229 (by decide) rfl (fun ls_248 hl_249 => ?_)
            refine lv_iinc (v := 4) (lv' := [(6, .int 4), (5, .int 3), (4, .int lf), (0, .ref (ad G 723)), (1, .int (nI i))]) hx hb dX8_takes_132 hl_249 (k := 1) rfl (by decide) (by decide) rfl (fun ls_250 hl_251 => ?_)
            refine lv_goto (tgt := 101) hx hb dX8_takes_135 (by decide) ?_
            refine lv_iload hx hb dX8_takes_101 (lv_at hl_251 0 rfl) ?_
            refine lv_iconst (v := 4) hx hb dX8_takes_103 (by decide) ?_
            refine lv_icmp_ge (tgt := 138) hx hb dX8_takes_104 (by decide) (fun _ => ?_) (fun h9 => absurd h9 (by decide))
            refine lv_aload_n hx hb dX8_takes_138 rfl (lv_at hl_251 3 rfl) ?_
            refine gM_v C hW (hwc hwX8) (mc qw_1481) dX8_takes_139 ?_
            refine lv_iload_n hx hb dX8_takes_142 rfl (lv_at hl_251 4 rfl) ?_
            refine lv_iload hx hb dX8_takes_143 (lv_at hl_251 1 rfl) ?_
            refine lv_iadd hx hb dX8_takes_145 ?_
            refine g_top (y := nI (i + 3)) (nI_add i 3) ?_
            refine lv_dup2_11 hx hb dX8_takes_146 rfl rfl ?_
            refine gm_vld C hW (i + 3) (nI_clamp (by omega)) (vp_in_nI (show i + 3 < 128 by omega) (by decide)) dX8_takes_147 ?_
            refine g_top (y := zz (i + 3)) (congrFun (rd_in (by decide) rd_out) _) ?_
            refine lv_iconst (v := 1) hx hb dX8_takes_148 (by decide) ?_
            refine lv_isub hx hb dX8_takes_149 ?_
            refine gm_vst C hW hS (i + 3) (nI_clamp (by omega)) (vp_in_nI (show i + 3 < 128 by omega) (by decide)) dX8_takes_150 (fun H_252 locs_253 hW_254 hS_255 => ?_)
            obtain ⟨w_256, ew_256⟩ : ∃ Z9, Z9 = upd zz (i + 3) ((zz (i + 3)) - 1) := ⟨_, rfl⟩
            have hW_257 : Wd G (setRow (setRow X 16 w_256) 20 pp) H_252 := Wd.cast (by rw [ew_256]; exact (st_in (by decide) st_out)) hW_254
            refine lv_aload_n hx hb dX8_takes_151 rfl (lv_at hl_251 3 rfl) ?_
            refine gM_part C hW_257 (hwc hwX8) (mc qw_1485) dX8_takes_152 ?_
            refine lv_iload hx hb dX8_takes_155 (lv_at hl_251 1 rfl) ?_
            refine lv_dup2_11 hx hb dX8_takes_157 rfl rfl ?_
            refine gm_partld C hW_257 3 (by decide) (vlit (by decide)) dX8_takes_158 ?_
            refine g_top (y := pp (3)) (congrFun rd_out _) ?_
            refine lv_iconst (v := 1) hx hb dX8_takes_159 (by decide) ?_
            refine lv_iadd hx hb dX8_takes_160 ?_
            refine gm_partst C hW_257 hS_255 3 (by decide) (vlit (by decide)) dX8_takes_161 (fun H_258 locs_259 hW_260 hS_261 => ?_)
            obtain ⟨w_262, ew_262⟩ : ∃ Z9, Z9 = upd pp (3) ((pp (3)) + 1) := ⟨_, rfl⟩
            have hW_263 : Wd G (setRow (setRow X 16 w_256) 20 w_262) H_258 := Wd.cast (by rw [ew_262]; exact st_out) hW_260
            obtain ⟨v_264, ev_264⟩ : ∃ Y9 : Int32, Y9 = lf + (-1) := ⟨_, rfl⟩
            refine lv_iinc (v := v_264) (lv' := [(4, .int v_264), (6, .int 4), (5, .int 3), (0, .ref (ad G 723)), (1, .int (nI i))]) hx hb dX8_takes_162 hl_251 (k := 2) rfl (by rw [ev_264]; rfl) (by decide) rfl (fun ls_265 hl_266 => ?_)
            refine lv_goto (tgt := 90) hx hb dX8_takes_165 (by decide) ?_
            exact ih w_256 w_262 v_264 H_258 locs_259 ls_265 (by subst ev_264; subst ew_262; subst ew_256; exact cnt_p hq) (by subst ev_264; subst ew_262; subst ew_256; rw [tkL] at hf; simp only [best4, best3, stepB, Nat.add_zero, b_98, b_186, b_230, if_true, if_false] at hf; exact hf) hW_263 hS_261 (lv_sub hl_266 [0, 3, 4] rfl)
  exact loop _ w_90 w_53 v_55 H_86 locs_87 ls_92 rfl (by subst ew_90; subst ew_82; subst ew_74; subst ew_66; subst ev_55; subst ew_53; subst ev_44; subst ew_42; subst ev_33; subst ew_31; subst ev_22; subst ew_20; subst ev_9; rfl) hW_91 hS_89 (lv_sub hl_93 [1, 3, 4] rfl)

def oM_adds (w16 : Nat → Int32) (w20 : Nat → Int32) (i : Nat) : (Nat → Int32) := adS (adS (adS (adS w16 w20 i 0) w20 i 1) w20 i 2) w20 i 3
set_option maxHeartbeats 4000000 in
set_option maxRecDepth 100000 in
theorem cX8_adds_ok (l : Launch) (G : GT) (X : St) (i : Nat) (hi : i + 4 ≤ 128) : MetV l G yX8_adds (wsG yX8_adds cX8_adds 3 none) (rmz 0 0) [.ref (ad G 723), .int (nI i)] X (fun Y => Y = setRow (X) 16 (oM_adds (X.1 16) (X.1 20) i)) := by
  refine g_met (cc := cX8_adds) (maxL := 3) (ret := none) (by decide) rfl (Nat.le_of_ble_eq_true rfl) ?_
  intro p e s m below meth c ls C hr hlk hnm hW hl
  have hx := C.1.1
  have hb := C.1.2.1
  have hS : va_S (Ab G) s.heap s.heap [] := va_S.rf
  have hl : lv_has ls 3 [(0, .ref (ad G 723)), (1, .int (nI i))] := hl
  have hW : Wd G (setRow (X) 16 (X.1 16)) s.heap := Wd.cast ((sr_same (X := X) (r := 16) rfl)).symm hW
  refine lv_iconst (v := 0) hx hb dX8_adds_0 (by decide) ?_
  refine lv_istore_n (lv' := [(2, .int 0), (0, .ref (ad G 723)), (1, .int (nI i))]) hx hb dX8_adds_1 rfl hl (by decide) rfl (fun ls_1 hl_2 => ?_)
  refine lv_iload_n hx hb dX8_adds_2 rfl (lv_at hl_2 0 rfl) ?_
  refine lv_iconst (v := 4) hx hb dX8_adds_3 (by decide) ?_
  refine lv_icmp_ge (tgt := 30) hx hb dX8_adds_4 (by decide) (fun h9 => absurd h9 (by decide)) (fun _ => ?_)
  refine lv_aload_n hx hb dX8_adds_7 rfl (lv_at hl_2 1 rfl) ?_
  refine gM_v C hW (hwc hwX8) (mc qw_1481) dX8_adds_8 ?_
  refine lv_iload_n hx hb dX8_adds_11 rfl (lv_at hl_2 2 rfl) ?_
  refine lv_iload_n hx hb dX8_adds_12 rfl (lv_at hl_2 0 rfl) ?_
  refine lv_iadd hx hb dX8_adds_13 ?_
  refine g_top (y := (nI i)) (Int32.add_zero _) ?_
  refine lv_dup2_11 hx hb dX8_adds_14 rfl rfl ?_
  refine gm_vld C hW i (nI_clamp (by omega)) (vp_in_nI (show i < 128 by omega) (by decide)) dX8_adds_15 ?_
  refine g_top (y := X.1 16 (i)) (congrFun rd_out _) ?_
  refine lv_aload_n hx hb dX8_adds_16 rfl (lv_at hl_2 1 rfl) ?_
  refine gM_part C hW (hwc hwX8) (mc qw_1485) dX8_adds_17 ?_
  refine lv_iload_n hx hb dX8_adds_20 rfl (lv_at hl_2 0 rfl) ?_
  refine gm_partld C hW 0 (by decide) (vlit (by decide)) dX8_adds_21 ?_
  refine g_top (y := X.1 20 (0)) (congrFun (rd_in (by decide) rfl) _) ?_
  refine lv_iadd hx hb dX8_adds_22 ?_
  refine gm_vst C hW hS i (nI_clamp (by omega)) (vp_in_nI (show i < 128 by omega) (by decide)) dX8_adds_23 (fun H_3 locs_4 hW_5 hS_6 => ?_)
  obtain ⟨w_7, ew_7⟩ : ∃ Z9, Z9 = upd (X.1 16) (i) ((X.1 16 (i)) + (X.1 20 (0))) := ⟨_, rfl⟩
  have hW_8 : Wd G (setRow X 16 w_7) H_3 := Wd.cast (by rw [ew_7]; exact st_out) hW_5
  refine lv_iinc (v := 1) (lv' := [(2, .int 1), (0, .ref (ad G 723)), (1, .int (nI i))]) hx hb dX8_adds_24 hl_2 (k := 0) rfl (by decide) (by decide) rfl (fun ls_9 hl_10 => ?_)
  refine lv_goto (tgt := 2) hx hb dX8_adds_27 (by decide) ?_
  refine lv_iload_n hx hb dX8_adds_2 rfl (lv_at hl_10 0 rfl) ?_
  refine lv_iconst (v := 4) hx hb dX8_adds_3 (by decide) ?_
  refine lv_icmp_ge (tgt := 30) hx hb dX8_adds_4 (by decide) (fun h9 => absurd h9 (by decide)) (fun _ => ?_)
  refine lv_aload_n hx hb dX8_adds_7 rfl (lv_at hl_10 1 rfl) ?_
  refine gM_v C hW_8 (hwc hwX8) (mc qw_1481) dX8_adds_8 ?_
  refine lv_iload_n hx hb dX8_adds_11 rfl (lv_at hl_10 2 rfl) ?_
  refine lv_iload_n hx hb dX8_adds_12 rfl (lv_at hl_10 0 rfl) ?_
  refine lv_iadd hx hb dX8_adds_13 ?_
  refine g_top (y := nI (i + 1)) (nI_add i 1) ?_
  refine lv_dup2_11 hx hb dX8_adds_14 rfl rfl ?_
  refine gm_vld C hW_8 (i + 1) (nI_clamp (by omega)) (vp_in_nI (show i + 1 < 128 by omega) (by decide)) dX8_adds_15 ?_
  refine g_top (y := w_7 (i + 1)) (congrFun rd_out _) ?_
  refine lv_aload_n hx hb dX8_adds_16 rfl (lv_at hl_10 1 rfl) ?_
  refine gM_part C hW_8 (hwc hwX8) (mc qw_1485) dX8_adds_17 ?_
  refine lv_iload_n hx hb dX8_adds_20 rfl (lv_at hl_10 0 rfl) ?_
  refine gm_partld C hW_8 1 (by decide) (vlit (by decide)) dX8_adds_21 ?_
  refine g_top (y := X.1 20 (1)) (congrFun (rd_in (by decide) rfl) _) ?_
  refine lv_iadd hx hb dX8_adds_22 ?_
  refine gm_vst C hW_8 hS_6 (i + 1) (nI_clamp (by omega)) (vp_in_nI (show i + 1 < 128 by omega) (by decide)) dX8_adds_23 (fun H_11 locs_12 hW_13 hS_14 => ?_)
  obtain ⟨w_15, ew_15⟩ : ∃ Z9, Z9 = upd w_7 (i + 1) ((w_7 (i + 1)) + (X.1 20 (1))) := ⟨_, rfl⟩
  have hW_16 : Wd G (setRow X 16 w_15) H_11 := Wd.cast (by rw [ew_15]; exact st_out) hW_13
  refine lv_iinc (v := 2) (lv' := [(2, .int 2), (0, .ref (ad G 723)), (1, .int (nI i))]) hx hb dX8_adds_24 hl_10 (k := 0) rfl (by decide) (by decide) rfl (fun ls_17 hl_18 => ?_)
  refine lv_goto (tgt := 2) hx hb dX8_adds_27 (by decide) ?_
  refine lv_iload_n hx hb dX8_adds_2 rfl (lv_at hl_18 0 rfl) ?_
  refine lv_iconst (v := 4) hx hb dX8_adds_3 (by decide) ?_
  refine lv_icmp_ge (tgt := 30) hx hb dX8_adds_4 (by decide) (fun h9 => absurd h9 (by decide)) (fun _ => ?_)
  refine lv_aload_n hx hb dX8_adds_7 rfl (lv_at hl_18 1 rfl) ?_
  refine gM_v C hW_16 (hwc hwX8) (mc qw_1481) dX8_adds_8 ?_
  refine lv_iload_n hx hb dX8_adds_11 rfl (lv_at hl_18 2 rfl) ?_
  refine lv_iload_n hx hb dX8_adds_12 rfl (lv_at hl_18 0 rfl) ?_
  refine lv_iadd hx hb dX8_adds_13 ?_
  refine g_top (y := nI (i + 2)) (nI_add i 2) ?_
  refine lv_dup2_11 hx hb dX8_adds_14 rfl rfl ?_
  refine gm_vld C hW_16 (i + 2) (nI_clamp (by omega)) (vp_in_nI (show i + 2 < 128 by omega) (by decide)) dX8_adds_15 ?_
  refine g_top (y := w_15 (i + 2)) (congrFun rd_out _) ?_
  refine lv_aload_n hx hb dX8_adds_16 rfl (lv_at hl_18 1 rfl) ?_
  refine gM_part C hW_16 (hwc hwX8) (mc qw_1485) dX8_adds_17 ?_
  refine lv_iload_n hx hb dX8_adds_20 rfl (lv_at hl_18 0 rfl) ?_
  refine gm_partld C hW_16 2 (by decide) (vlit (by decide)) dX8_adds_21 ?_
  refine g_top (y := X.1 20 (2)) (congrFun (rd_in (by decide) rfl) _) ?_
  refine lv_iadd hx hb dX8_adds_22 ?_
  refine gm_vst C hW_16 hS_14 (i + 2) (nI_clamp (by omega)) (vp_in_nI (show i + 2 < 128 by omega) (by decide)) dX8_adds_23 (fun H_19 locs_20 hW_21 hS_22 => ?_)
  obtain ⟨w_23, ew_23⟩ : ∃ Z9, Z9 = upd w_15 (i + 2) ((w_15 (i + 2)) + (X.1 20 (2))) := ⟨_, rfl⟩
  have hW_24 : Wd G (setRow X 16 w_23) H_19 := Wd.cast (by rw [ew_23]; exact st_out) hW_21
  refine lv_iinc (v := 3) (lv' := [(2, .int 3), (0, .ref (ad G 723)), (1, .int (nI i))]) hx hb dX8_adds_24 hl_18 (k := 0) rfl (by decide) (by decide) rfl (fun ls_25 hl_26 => ?_)
  refine lv_goto (tgt := 2) hx hb dX8_adds_27 (by decide) ?_
  refine lv_iload_n hx hb dX8_adds_2 rfl (lv_at hl_26 0 rfl) ?_
  refine lv_iconst (v := 4) hx hb dX8_adds_3 (by decide) ?_
  refine lv_icmp_ge (tgt := 30) hx hb dX8_adds_4 (by decide) (fun h9 => absurd h9 (by decide)) (fun _ => ?_)
  refine lv_aload_n hx hb dX8_adds_7 rfl (lv_at hl_26 1 rfl) ?_
  refine gM_v C hW_24 (hwc hwX8) (mc qw_1481) dX8_adds_8 ?_
  refine lv_iload_n hx hb dX8_adds_11 rfl (lv_at hl_26 2 rfl) ?_
  refine lv_iload_n hx hb dX8_adds_12 rfl (lv_at hl_26 0 rfl) ?_
  refine lv_iadd hx hb dX8_adds_13 ?_
  refine g_top (y := nI (i + 3)) (nI_add i 3) ?_
  refine lv_dup2_11 hx hb dX8_adds_14 rfl rfl ?_
  refine gm_vld C hW_24 (i + 3) (nI_clamp (by omega)) (vp_in_nI (show i + 3 < 128 by omega) (by decide)) dX8_adds_15 ?_
  refine g_top (y := w_23 (i + 3)) (congrFun rd_out _) ?_
  refine lv_aload_n hx hb dX8_adds_16 rfl (lv_at hl_26 1 rfl) ?_
  refine gM_part C hW_24 (hwc hwX8) (mc qw_1485) dX8_adds_17 ?_
  refine lv_iload_n hx hb dX8_adds_20 rfl (lv_at hl_26 0 rfl) ?_
  refine gm_partld C hW_24 3 (by decide) (vlit (by decide)) dX8_adds_21 ?_
  refine g_top (y := X.1 20 (3)) (congrFun (rd_in (by decide) rfl) _) ?_
  refine lv_iadd hx hb dX8_adds_22 ?_
  refine gm_vst C hW_24 hS_22 (i + 3) (nI_clamp (by omega)) (vp_in_nI (show i + 3 < 128 by omega) (by decide)) dX8_adds_23 (fun H_27 locs_28 hW_29 hS_30 => ?_)
  obtain ⟨w_31, ew_31⟩ : ∃ Z9, Z9 = upd w_23 (i + 3) ((w_23 (i + 3)) + (X.1 20 (3))) := ⟨_, rfl⟩
  have hW_32 : Wd G (setRow X 16 w_31) H_27 := Wd.cast (by rw [ew_31]; exact st_out) hW_29
  refine lv_iinc (v := 4) (lv' := [(2, .int 4), (0, .ref (ad G 723)), (1, .int (nI i))]) hx hb dX8_adds_24 hl_26 (k := 0) rfl (by decide) (by decide) rfl (fun ls_33 hl_34 => ?_)
  refine lv_goto (tgt := 2) hx hb dX8_adds_27 (by decide) ?_
  refine lv_iload_n hx hb dX8_adds_2 rfl (lv_at hl_34 0 rfl) ?_
  refine lv_iconst (v := 4) hx hb dX8_adds_3 (by decide) ?_
  refine lv_icmp_ge (tgt := 30) hx hb dX8_adds_4 (by decide) (fun _ => ?_) (fun h9 => absurd h9 (by decide))
  exact g_vret C hr hlk hW_32 hS_30 dX8_adds_30 (by subst ew_31; subst ew_23; subst ew_15; subst ew_7; rfl)

def oM_feeds (w16 : Nat → Int32) (w20 : Nat → Int32) (f : Nat) (t : Int32) : Int32 × (Nat → Int32) := 
  let w1 := upd w16 (9 + 6 * f + 4) ((w16 (9 + 6 * f + 4) * (oM_mass w16 (9 + 6 * f) + 10) + t * oM_partMass w20) / (oM_mass w16 (9 + 6 * f) + 10 + oM_partMass w20))
  (oM_adds w1 w20 (9 + 6 * f) (9 + 6 * f + 4), oM_adds w1 w20 (9 + 6 * f))
set_option maxHeartbeats 4000000 in
set_option maxRecDepth 100000 in
theorem cX8_feeds_ok (l : Launch) (G : GT) (X : St) (f : Nat) (t : Int32) (hf : f < 3) (hd : ¬ oM_mass (X.1 16) (9 + 6 * f) + 10 + oM_partMass (X.1 20) = 0) : MetI l G yX8_feeds (wsG yX8_feeds cX8_feeds 6 (some .int)) (rmz 1 22) [.ref (ad G 723), .int (nI f), .int t] X (fun res Y => res = (oM_feeds (X.1 16) (X.1 20) f t).1 ∧ Y = setRow (X) 16 ((oM_feeds (X.1 16) (X.1 20) f t).2)) := by
  refine g_met (cc := cX8_feeds) (maxL := 6) (ret := (some .int)) (by decide) rfl (Nat.le_of_ble_eq_true rfl) ?_
  intro p e s m below meth c ls C hr hlk hnm hW hl
  have hx := C.1.1
  have hb := C.1.2.1
  have hS : va_S (Ab G) s.heap s.heap [] := va_S.rf
  have hl : lv_has ls 6 [(0, .ref (ad G 723)), (1, .int (nI f)), (2, .int t)] := hl
  have hW : Wd G (setRow (X) 16 (X.1 16)) s.heap := Wd.cast ((sr_same (X := X) (r := 16) rfl)).symm hW
  refine lv_iload_n hx hb dX8_feeds_0 rfl (lv_at hl 1 rfl) ?_
  refine g_calli (va_runS (As := [.int (nI f)]) (rest := []) C.1 (cX8_furnace_ok l G (setRow X 16 (X.1 16)) (nI f)) (va_cwS 1 C.1.2.2.2.2 (gS qw_1470 qw_1471 qw_81 qw_1472) rfl rfl rfl (by decide +kernel) ⟨Nat.le_of_ble_eq_true rfl, Nat.le_of_ble_eq_true rfl⟩) (g_pre C hW hS [.int (nI f)]) rfl rfl hl.1 rfl (lv_room (Nat.le_of_ble_eq_true rfl)) dX8_feeds_1 ⟨Nat.zero_le _, Nat.zero_le _⟩) hS (fun r_2 Y_3 H_4 locs_5 hW_6 hS_7 h_1 => ?_)
  obtain ⟨h_1, hy_8⟩ := h_1
  replace hy_8 := hy_8.symm
  subst hy_8
  replace h_1 : r_2 = oM_furnace (nI f) := h_1
  subst h_1
  refine g_top (y := nI (9 + 6 * f)) (at_furnace f) ?_
  refine lv_istore_n (lv' := [(3, .int (nI (9 + 6 * f))), (0, .ref (ad G 723)), (1, .int (nI f)), (2, .int t)]) hx hb dX8_feeds_4 rfl hl (by decide) rfl (fun ls_9 hl_10 => ?_)
  refine lv_aload_n hx hb dX8_feeds_5 rfl (lv_at hl_10 1 rfl) ?_
  refine lv_iload_n hx hb dX8_feeds_6 rfl (lv_at hl_10 0 rfl) ?_
  refine g_calli (va_runV (As := [.int (nI (9 + 6 * f))]) (rest := []) C.1 (cX8_mass_ok l G (setRow X 16 (X.1 16)) (9 + 6 * f) (show 9 + 6 * f + 4 ≤ 128 by omega)) (cwV 1 C.1.2.2.2.2 (gV qw_1575 qw_1577 qw_32 qw_81 qw_1578) rfl rfl rfl (by decide +kernel) ⟨Nat.le_of_ble_eq_true rfl, Nat.le_of_ble_eq_true rfl⟩) (g_rModel C hW_6 hS_7 [.int (nI (9 + 6 * f))]) rfl rfl hl_10.1 rfl (lv_room (Nat.le_of_ble_eq_true rfl)) dX8_feeds_7 ⟨Nat.zero_le _, Nat.zero_le _⟩) hS_7 (fun r_12 Y_13 H_14 locs_15 hW_16 hS_17 h_11 => ?_)
  obtain ⟨h_11, hy_18⟩ := h_11
  replace hy_18 := hy_18.symm
  subst hy_18
  replace h_11 : r_12 = oM_mass (X.1 16) (9 + 6 * f) := h_11
  subst h_11
  refine lv_bipush (v := 10) hx hb dX8_feeds_10 (by decide) ?_
  refine lv_iadd hx hb dX8_feeds_12 ?_
  refine lv_topi (fun v_19 ev_19 => ?_)
  refine lv_istore (lv' := [(4, .int v_19), (3, .int (nI (9 + 6 * f))), (0, .ref (ad G 723)), (1, .int (nI f)), (2, .int t)]) hx hb dX8_feeds_13 hl_10 (by decide) rfl (fun ls_20 hl_21 => ?_)
  refine lv_aload_n hx hb dX8_feeds_15 rfl (lv_at hl_21 2 rfl) ?_
  refine g_calli (va_runV (As := []) (rest := []) C.1 (cX8_partMass_ok l G (setRow X 16 (X.1 16))) (cwV 0 C.1.2.2.2.2 (gV qw_1583 qw_1585 qw_34 qw_81 qw_1586) rfl rfl rfl (by decide +kernel) ⟨Nat.le_of_ble_eq_true rfl, Nat.le_of_ble_eq_true rfl⟩) (g_rModel C hW_16 hS_17 []) rfl rfl hl_21.1 rfl (lv_room (Nat.le_of_ble_eq_true rfl)) dX8_feeds_16 ⟨Nat.zero_le _, Nat.zero_le _⟩) hS_17 (fun r_23 Y_24 H_25 locs_26 hW_27 hS_28 h_22 => ?_)
  obtain ⟨h_22, hy_29⟩ := h_22
  replace hy_29 := hy_29.symm
  subst hy_29
  replace h_22 : r_23 = oM_partMass (X.1 20) := h_22
  subst h_22
  refine lv_topi (fun v_30 ev_30 => ?_)
  refine lv_istore (lv' := [(5, .int v_30), (4, .int v_19), (3, .int (nI (9 + 6 * f))), (0, .ref (ad G 723)), (1, .int (nI f)), (2, .int t)]) hx hb dX8_feeds_19 hl_21 (by decide) rfl (fun ls_31 hl_32 => ?_)
  refine lv_aload_n hx hb dX8_feeds_21 rfl (lv_at hl_32 3 rfl) ?_
  refine gM_v C hW_27 (hwc hwX8) (mc qw_1481) dX8_feeds_22 ?_
  refine lv_iload_n hx hb dX8_feeds_25 rfl (lv_at hl_32 2 rfl) ?_
  refine lv_iconst (v := 4) hx hb dX8_feeds_26 (by decide) ?_
  refine lv_iadd hx hb dX8_feeds_27 ?_
  refine g_top (y := nI ((9 + 6 * f) + 4)) (nI_add (9 + 6 * f) 4) ?_
  refine lv_aload_n hx hb dX8_feeds_28 rfl (lv_at hl_32 3 rfl) ?_
  refine gM_v C hW_27 (hwc hwX8) (mc qw_1481) dX8_feeds_29 ?_
  refine lv_iload_n hx hb dX8_feeds_32 rfl (lv_at hl_32 2 rfl) ?_
  refine lv_iconst (v := 4) hx hb dX8_feeds_33 (by decide) ?_
  refine lv_iadd hx hb dX8_feeds_34 ?_
  refine g_top (y := nI ((9 + 6 * f) + 4)) (nI_add (9 + 6 * f) 4) ?_
  refine gm_vld C hW_27 ((9 + 6 * f) + 4) (nI_clamp (by omega)) (vp_in_nI (show (9 + 6 * f) + 4 < 128 by omega) (by decide)) dX8_feeds_35 ?_
  refine g_top (y := X.1 16 ((9 + 6 * f) + 4)) (congrFun rd_out _) ?_
  refine lv_iload hx hb dX8_feeds_36 (lv_at hl_32 1 rfl) ?_
  refine lv_imul hx hb dX8_feeds_38 ?_
  refine lv_iload_n hx hb dX8_feeds_39 rfl (lv_at hl_32 5 rfl) ?_
  refine lv_iload hx hb dX8_feeds_40 (lv_at hl_32 0 rfl) ?_
  refine lv_imul hx hb dX8_feeds_42 ?_
  refine lv_iadd hx hb dX8_feeds_43 ?_
  refine lv_iload hx hb dX8_feeds_44 (lv_at hl_32 1 rfl) ?_
  refine lv_iload hx hb dX8_feeds_46 (lv_at hl_32 0 rfl) ?_
  refine lv_iadd hx hb dX8_feeds_48 ?_
  refine lv_idiv hx hb dX8_feeds_49 (by subst ev_30; subst ev_19; exact hd) ?_
  refine gm_vst C hW_27 hS_28 ((9 + 6 * f) + 4) (nI_clamp (by omega)) (vp_in_nI (show (9 + 6 * f) + 4 < 128 by omega) (by decide)) dX8_feeds_50 (fun H_33 locs_34 hW_35 hS_36 => ?_)
  obtain ⟨w_37, ew_37⟩ : ∃ Z9, Z9 = upd (X.1 16) ((9 + 6 * f) + 4) ((((X.1 16 ((9 + 6 * f) + 4)) * v_19) + (t * v_30)) / (v_19 + v_30)) := ⟨_, rfl⟩
  have hW_38 : Wd G (setRow X 16 w_37) H_33 := Wd.cast (by rw [ew_37]; exact st_out) hW_35
  refine lv_aload_n hx hb dX8_feeds_51 rfl (lv_at hl_32 3 rfl) ?_
  refine lv_iload_n hx hb dX8_feeds_52 rfl (lv_at hl_32 2 rfl) ?_
  refine g_callv (va_runV (As := [.int (nI (9 + 6 * f))]) (rest := []) C.1 (cX8_adds_ok l G (setRow X 16 w_37) (9 + 6 * f) (show 9 + 6 * f + 4 ≤ 128 by omega)) (cwV 1 C.1.2.2.2.2 (gV qw_1587 qw_1589 qw_35 qw_81 qw_1590) rfl rfl rfl (by decide +kernel) ⟨Nat.le_of_ble_eq_true rfl, Nat.le_of_ble_eq_true rfl⟩) (g_rModel C hW_38 hS_36 [.int (nI (9 + 6 * f))]) rfl rfl hl_32.1 rfl (lv_room (Nat.le_of_ble_eq_true rfl)) dX8_feeds_53 ⟨Nat.zero_le _, Nat.zero_le _⟩) hS_36 (fun Y_40 H_41 locs_42 hW_43 hS_44 h_39 => ?_)
  replace h_39 : Y_40 = setRow (setRow X 16 w_37) 16 (oM_adds w_37 (X.1 20) (9 + 6 * f)) := h_39
  obtain ⟨w_45, ew_45⟩ : ∃ Z9, Z9 = oM_adds w_37 (X.1 20) (9 + 6 * f) := ⟨_, rfl⟩
  have qqw_45 : Y_40 = setRow (setRow X 16 w_37) 16 w_45 := by rw [h_39, ew_45]
  have hW_46 : Wd G (setRow X 16 w_45) H_41 := Wd.cast ((qqw_45).trans (congrArg (fun Z9 => Z9) sr_out)) hW_43
  refine lv_aload_n hx hb dX8_feeds_56 rfl (lv_at hl_32 3 rfl) ?_
  refine gM_v C hW_46 (hwc hwX8) (mc qw_1481) dX8_feeds_57 ?_
  refine lv_iload_n hx hb dX8_feeds_60 rfl (lv_at hl_32 2 rfl) ?_
  refine lv_iconst (v := 4) hx hb dX8_feeds_61 (by decide) ?_
  refine lv_iadd hx hb dX8_feeds_62 ?_
  refine g_top (y := nI ((9 + 6 * f) + 4)) (nI_add (9 + 6 * f) 4) ?_
  refine gm_vld C hW_46 ((9 + 6 * f) + 4) (nI_clamp (by omega)) (vp_in_nI (show (9 + 6 * f) + 4 < 128 by omega) (by decide)) dX8_feeds_63 ?_
  refine g_top (y := w_45 ((9 + 6 * f) + 4)) (congrFun rd_out _) ?_
  exact g_iret C hr hlk hW_46 hS_44 dX8_feeds_64 (by subst ew_45; subst ew_37; subst ev_30; subst ev_19; exact ⟨(by first | rfl | (simp only [oM_feeds, if_true, if_false]; first | done | rfl)), (by first | rfl | (simp only [oM_feeds, if_true, if_false]; first | done | rfl))⟩)

def oM_fills (w16 : Nat → Int32) (w20 : Nat → Int32) (f : Nat) (t : Int32) : Int32 × (Nat → Int32) := 
  let w1 := upd w16 (27 + 5 * f + 4) ((w16 (27 + 5 * f + 4) * oM_mass w16 (27 + 5 * f) + t * oM_partMass w20) / (oM_mass w16 (27 + 5 * f) + oM_partMass w20))
  (oM_adds w1 w20 (27 + 5 * f) (27 + 5 * f + 4), oM_adds w1 w20 (27 + 5 * f))
set_option maxHeartbeats 4000000 in
set_option maxRecDepth 100000 in
theorem cX8_fills_ok (l : Launch) (G : GT) (X : St) (f : Nat) (t : Int32) (hf : f < 3) (hd : ¬ oM_mass (X.1 16) (27 + 5 * f) + oM_partMass (X.1 20) = 0) : MetI l G yX8_fills (wsG yX8_fills cX8_fills 6 (some .int)) (rmz 1 22) [.ref (ad G 723), .int (nI f), .int t] X (fun res Y => res = (oM_fills (X.1 16) (X.1 20) f t).1 ∧ Y = setRow (X) 16 ((oM_fills (X.1 16) (X.1 20) f t).2)) := by
  refine g_met (cc := cX8_fills) (maxL := 6) (ret := (some .int)) (by decide) rfl (Nat.le_of_ble_eq_true rfl) ?_
  intro p e s m below meth c ls C hr hlk hnm hW hl
  have hx := C.1.1
  have hb := C.1.2.1
  have hS : va_S (Ab G) s.heap s.heap [] := va_S.rf
  have hl : lv_has ls 6 [(0, .ref (ad G 723)), (1, .int (nI f)), (2, .int t)] := hl
  have hW : Wd G (setRow (X) 16 (X.1 16)) s.heap := Wd.cast ((sr_same (X := X) (r := 16) rfl)).symm hW
  refine lv_iload_n hx hb dX8_fills_0 rfl (lv_at hl 1 rfl) ?_
  refine g_calli (va_runS (As := [.int (nI f)]) (rest := []) C.1 (cX8_ladle_ok l G (setRow X 16 (X.1 16)) (nI f)) (va_cwS 1 C.1.2.2.2.2 (gS qw_1473 qw_1474 qw_81 qw_1475) rfl rfl rfl (by decide +kernel) ⟨Nat.le_of_ble_eq_true rfl, Nat.le_of_ble_eq_true rfl⟩) (g_pre C hW hS [.int (nI f)]) rfl rfl hl.1 rfl (lv_room (Nat.le_of_ble_eq_true rfl)) dX8_fills_1 ⟨Nat.zero_le _, Nat.zero_le _⟩) hS (fun r_2 Y_3 H_4 locs_5 hW_6 hS_7 h_1 => ?_)
  obtain ⟨h_1, hy_8⟩ := h_1
  replace hy_8 := hy_8.symm
  subst hy_8
  replace h_1 : r_2 = oM_ladle (nI f) := h_1
  subst h_1
  refine g_top (y := nI (27 + 5 * f)) (at_ladle f) ?_
  refine lv_istore_n (lv' := [(3, .int (nI (27 + 5 * f))), (0, .ref (ad G 723)), (1, .int (nI f)), (2, .int t)]) hx hb dX8_fills_4 rfl hl (by decide) rfl (fun ls_9 hl_10 => ?_)
  refine lv_aload_n hx hb dX8_fills_5 rfl (lv_at hl_10 1 rfl) ?_
  refine lv_iload_n hx hb dX8_fills_6 rfl (lv_at hl_10 0 rfl) ?_
  refine g_calli (va_runV (As := [.int (nI (27 + 5 * f))]) (rest := []) C.1 (cX8_mass_ok l G (setRow X 16 (X.1 16)) (27 + 5 * f) (show 27 + 5 * f + 4 ≤ 128 by omega)) (cwV 1 C.1.2.2.2.2 (gV qw_1575 qw_1577 qw_32 qw_81 qw_1578) rfl rfl rfl (by decide +kernel) ⟨Nat.le_of_ble_eq_true rfl, Nat.le_of_ble_eq_true rfl⟩) (g_rModel C hW_6 hS_7 [.int (nI (27 + 5 * f))]) rfl rfl hl_10.1 rfl (lv_room (Nat.le_of_ble_eq_true rfl)) dX8_fills_7 ⟨Nat.zero_le _, Nat.zero_le _⟩) hS_7 (fun r_12 Y_13 H_14 locs_15 hW_16 hS_17 h_11 => ?_)
  obtain ⟨h_11, hy_18⟩ := h_11
  replace hy_18 := hy_18.symm
  subst hy_18
  replace h_11 : r_12 = oM_mass (X.1 16) (27 + 5 * f) := h_11
  subst h_11
  refine lv_topi (fun v_19 ev_19 => ?_)
  refine lv_istore (lv' := [(4, .int v_19), (3, .int (nI (27 + 5 * f))), (0, .ref (ad G 723)), (1, .int (nI f)), (2, .int t)]) hx hb dX8_fills_10 hl_10 (by decide) rfl (fun ls_20 hl_21 => ?_)
  refine lv_aload_n hx hb dX8_fills_12 rfl (lv_at hl_21 2 rfl) ?_
  refine g_calli (va_runV (As := []) (rest := []) C.1 (cX8_partMass_ok l G (setRow X 16 (X.1 16))) (cwV 0 C.1.2.2.2.2 (gV qw_1583 qw_1585 qw_34 qw_81 qw_1586) rfl rfl rfl (by decide +kernel) ⟨Nat.le_of_ble_eq_true rfl, Nat.le_of_ble_eq_true rfl⟩) (g_rModel C hW_16 hS_17 []) rfl rfl hl_21.1 rfl (lv_room (Nat.le_of_ble_eq_true rfl)) dX8_fills_13 ⟨Nat.zero_le _, Nat.zero_le _⟩) hS_17 (fun r_23 Y_24 H_25 locs_26 hW_27 hS_28 h_22 => ?_)
  obtain ⟨h_22, hy_29⟩ := h_22
  replace hy_29 := hy_29.symm
  subst hy_29
  replace h_22 : r_23 = oM_partMass (X.1 20) := h_22
  subst h_22
  refine lv_topi (fun v_30 ev_30 => ?_)
  refine lv_istore (lv' := [(5, .int v_30), (4, .int v_19), (3, .int (nI (27 + 5 * f))), (0, .ref (ad G 723)), (1, .int (nI f)), (2, .int t)]) hx hb dX8_fills_16 hl_21 (by decide) rfl (fun ls_31 hl_32 => ?_)
  refine lv_aload_n hx hb dX8_fills_18 rfl (lv_at hl_32 3 rfl) ?_
  refine gM_v C hW_27 (hwc hwX8) (mc qw_1481) dX8_fills_19 ?_
  refine lv_iload_n hx hb dX8_fills_22 rfl (lv_at hl_32 2 rfl) ?_
  refine lv_iconst (v := 4) hx hb dX8_fills_23 (by decide) ?_
  refine lv_iadd hx hb dX8_fills_24 ?_
  refine g_top (y := nI ((27 + 5 * f) + 4)) (nI_add (27 + 5 * f) 4) ?_
  refine lv_aload_n hx hb dX8_fills_25 rfl (lv_at hl_32 3 rfl) ?_
  refine gM_v C hW_27 (hwc hwX8) (mc qw_1481) dX8_fills_26 ?_
  refine lv_iload_n hx hb dX8_fills_29 rfl (lv_at hl_32 2 rfl) ?_
  refine lv_iconst (v := 4) hx hb dX8_fills_30 (by decide) ?_
  refine lv_iadd hx hb dX8_fills_31 ?_
  refine g_top (y := nI ((27 + 5 * f) + 4)) (nI_add (27 + 5 * f) 4) ?_
  refine gm_vld C hW_27 ((27 + 5 * f) + 4) (nI_clamp (by omega)) (vp_in_nI (show (27 + 5 * f) + 4 < 128 by omega) (by decide)) dX8_fills_32 ?_
  refine g_top (y := X.1 16 ((27 + 5 * f) + 4)) (congrFun rd_out _) ?_
  refine lv_iload hx hb dX8_fills_33 (lv_at hl_32 1 rfl) ?_
  refine lv_imul hx hb dX8_fills_35 ?_
  refine lv_iload_n hx hb dX8_fills_36 rfl (lv_at hl_32 5 rfl) ?_
  refine lv_iload hx hb dX8_fills_37 (lv_at hl_32 0 rfl) ?_
  refine lv_imul hx hb dX8_fills_39 ?_
  refine lv_iadd hx hb dX8_fills_40 ?_
  refine lv_iload hx hb dX8_fills_41 (lv_at hl_32 1 rfl) ?_
  refine lv_iload hx hb dX8_fills_43 (lv_at hl_32 0 rfl) ?_
  refine lv_iadd hx hb dX8_fills_45 ?_
  refine lv_idiv hx hb dX8_fills_46 (by subst ev_30; subst ev_19; exact hd) ?_
  refine gm_vst C hW_27 hS_28 ((27 + 5 * f) + 4) (nI_clamp (by omega)) (vp_in_nI (show (27 + 5 * f) + 4 < 128 by omega) (by decide)) dX8_fills_47 (fun H_33 locs_34 hW_35 hS_36 => ?_)
  obtain ⟨w_37, ew_37⟩ : ∃ Z9, Z9 = upd (X.1 16) ((27 + 5 * f) + 4) ((((X.1 16 ((27 + 5 * f) + 4)) * v_19) + (t * v_30)) / (v_19 + v_30)) := ⟨_, rfl⟩
  have hW_38 : Wd G (setRow X 16 w_37) H_33 := Wd.cast (by rw [ew_37]; exact st_out) hW_35
  refine lv_aload_n hx hb dX8_fills_48 rfl (lv_at hl_32 3 rfl) ?_
  refine lv_iload_n hx hb dX8_fills_49 rfl (lv_at hl_32 2 rfl) ?_
  refine g_callv (va_runV (As := [.int (nI (27 + 5 * f))]) (rest := []) C.1 (cX8_adds_ok l G (setRow X 16 w_37) (27 + 5 * f) (show 27 + 5 * f + 4 ≤ 128 by omega)) (cwV 1 C.1.2.2.2.2 (gV qw_1587 qw_1589 qw_35 qw_81 qw_1590) rfl rfl rfl (by decide +kernel) ⟨Nat.le_of_ble_eq_true rfl, Nat.le_of_ble_eq_true rfl⟩) (g_rModel C hW_38 hS_36 [.int (nI (27 + 5 * f))]) rfl rfl hl_32.1 rfl (lv_room (Nat.le_of_ble_eq_true rfl)) dX8_fills_50 ⟨Nat.zero_le _, Nat.zero_le _⟩) hS_36 (fun Y_40 H_41 locs_42 hW_43 hS_44 h_39 => ?_)
  replace h_39 : Y_40 = setRow (setRow X 16 w_37) 16 (oM_adds w_37 (X.1 20) (27 + 5 * f)) := h_39
  obtain ⟨w_45, ew_45⟩ : ∃ Z9, Z9 = oM_adds w_37 (X.1 20) (27 + 5 * f) := ⟨_, rfl⟩
  have qqw_45 : Y_40 = setRow (setRow X 16 w_37) 16 w_45 := by rw [h_39, ew_45]
  have hW_46 : Wd G (setRow X 16 w_45) H_41 := Wd.cast ((qqw_45).trans (congrArg (fun Z9 => Z9) sr_out)) hW_43
  refine lv_aload_n hx hb dX8_fills_53 rfl (lv_at hl_32 3 rfl) ?_
  refine gM_v C hW_46 (hwc hwX8) (mc qw_1481) dX8_fills_54 ?_
  refine lv_iload_n hx hb dX8_fills_57 rfl (lv_at hl_32 2 rfl) ?_
  refine lv_iconst (v := 4) hx hb dX8_fills_58 (by decide) ?_
  refine lv_iadd hx hb dX8_fills_59 ?_
  refine g_top (y := nI ((27 + 5 * f) + 4)) (nI_add (27 + 5 * f) 4) ?_
  refine gm_vld C hW_46 ((27 + 5 * f) + 4) (nI_clamp (by omega)) (vp_in_nI (show (27 + 5 * f) + 4 < 128 by omega) (by decide)) dX8_fills_60 ?_
  refine g_top (y := w_45 ((27 + 5 * f) + 4)) (congrFun rd_out _) ?_
  exact g_iret C hr hlk hW_46 hS_44 dX8_fills_61 (by subst ew_45; subst ew_37; subst ev_30; subst ev_19; exact ⟨(by first | rfl | (simp only [oM_fills, if_true, if_false]; first | done | rfl)), (by first | rfl | (simp only [oM_fills, if_true, if_false]; first | done | rfl))⟩)

def oM_cools (w16 : Nat → Int32) (f : Nat) : (Nat → Int32) := if oM_mass (w16) (27 + 5 * f) = 0 then (upd (w16) ((27 + 5 * f) + 4) 20) else w16
set_option maxHeartbeats 4000000 in
set_option maxRecDepth 100000 in
theorem cX8_cools_ok (l : Launch) (G : GT) (X : St) (f : Nat) (hf : f < 3) : MetV l G yX8_cools (wsG yX8_cools cX8_cools 2 none) (rmz 1 21) [.ref (ad G 723), .int (nI f)] X (fun Y => Y = setRow (X) 16 (oM_cools (X.1 16) f)) := by
  refine g_met (cc := cX8_cools) (maxL := 2) (ret := none) (by decide) rfl (Nat.le_of_ble_eq_true rfl) ?_
  intro p e s m below meth c ls C hr hlk hnm hW hl
  have hx := C.1.1
  have hb := C.1.2.1
  have hS : va_S (Ab G) s.heap s.heap [] := va_S.rf
  have hl : lv_has ls 2 [(0, .ref (ad G 723)), (1, .int (nI f))] := hl
  have hW : Wd G (setRow (X) 16 (X.1 16)) s.heap := Wd.cast ((sr_same (X := X) (r := 16) rfl)).symm hW
  refine lv_aload_n hx hb dX8_cools_0 rfl (lv_at hl 0 rfl) ?_
  refine lv_iload_n hx hb dX8_cools_1 rfl (lv_at hl 1 rfl) ?_
  refine g_calli (va_runS (As := [.int (nI f)]) (rest := [.ref (ad G 723)]) C.1 (cX8_ladle_ok l G (setRow X 16 (X.1 16)) (nI f)) (va_cwS 1 C.1.2.2.2.2 (gS qw_1473 qw_1474 qw_81 qw_1475) rfl rfl rfl (by decide +kernel) ⟨Nat.le_of_ble_eq_true rfl, Nat.le_of_ble_eq_true rfl⟩) (g_pre C hW hS [.int (nI f)]) rfl rfl hl.1 rfl (lv_room (Nat.le_of_ble_eq_true rfl)) dX8_cools_2 ⟨Nat.zero_le _, Nat.zero_le _⟩) hS (fun r_2 Y_3 H_4 locs_5 hW_6 hS_7 h_1 => ?_)
  obtain ⟨h_1, hy_8⟩ := h_1
  replace hy_8 := hy_8.symm
  subst hy_8
  replace h_1 : r_2 = oM_ladle (nI f) := h_1
  subst h_1
  refine g_top (y := nI (27 + 5 * f)) (at_ladle f) ?_
  refine g_calli (va_runV (As := [.int (nI (27 + 5 * f))]) (rest := []) C.1 (cX8_mass_ok l G (setRow X 16 (X.1 16)) (27 + 5 * f) (show 27 + 5 * f + 4 ≤ 128 by omega)) (cwV 1 C.1.2.2.2.2 (gV qw_1575 qw_1577 qw_32 qw_81 qw_1578) rfl rfl rfl (by decide +kernel) ⟨Nat.le_of_ble_eq_true rfl, Nat.le_of_ble_eq_true rfl⟩) (g_rModel C hW_6 hS_7 [.int (nI (27 + 5 * f))]) rfl rfl hl.1 rfl (lv_room (Nat.le_of_ble_eq_true rfl)) dX8_cools_5 ⟨Nat.zero_le _, Nat.zero_le _⟩) hS_7 (fun r_10 Y_11 H_12 locs_13 hW_14 hS_15 h_9 => ?_)
  obtain ⟨h_9, hy_16⟩ := h_9
  replace hy_16 := hy_16.symm
  subst hy_16
  replace h_9 : r_10 = oM_mass (X.1 16) (27 + 5 * f) := h_9
  subst h_9
  refine lv_if_ne (tgt := 24) hx hb dX8_cools_8 (by decide) (fun b_17 => ?_) (fun b_17 => ?_)
  · exact g_vret C hr hlk hW_14 hS_15 dX8_cools_24 (by exact (by first | rfl | (simp only [oM_cools, b_17, if_true, if_false]; first | done | rfl)))
  · refine lv_aload_n hx hb dX8_cools_11 rfl (lv_at hl 0 rfl) ?_
    refine gM_v C hW_14 (hwc hwX8) (mc qw_1481) dX8_cools_12 ?_
    refine lv_iload_n hx hb dX8_cools_15 rfl (lv_at hl 1 rfl) ?_
    refine g_calli (va_runS (As := [.int (nI f)]) (rest := [.ref (ad G 724)]) C.1 (cX8_ladle_ok l G (setRow X 16 (X.1 16)) (nI f)) (va_cwS 1 C.1.2.2.2.2 (gS qw_1473 qw_1474 qw_81 qw_1475) rfl rfl rfl (by decide +kernel) ⟨Nat.le_of_ble_eq_true rfl, Nat.le_of_ble_eq_true rfl⟩) (g_pre C hW_14 hS_15 [.int (nI f)]) rfl rfl hl.1 rfl (lv_room (Nat.le_of_ble_eq_true rfl)) dX8_cools_16 ⟨Nat.zero_le _, Nat.zero_le _⟩) hS_15 (fun r_19 Y_20 H_21 locs_22 hW_23 hS_24 h_18 => ?_)
    obtain ⟨h_18, hy_25⟩ := h_18
    replace hy_25 := hy_25.symm
    subst hy_25
    replace h_18 : r_19 = oM_ladle (nI f) := h_18
    subst h_18
    refine g_top (y := nI (27 + 5 * f)) (at_ladle f) ?_
    refine lv_iconst (v := 4) hx hb dX8_cools_19 (by decide) ?_
    refine lv_iadd hx hb dX8_cools_20 ?_
    refine g_top (y := nI ((27 + 5 * f) + 4)) (nI_add (27 + 5 * f) 4) ?_
    refine lv_bipush (v := 20) hx hb dX8_cools_21 (by decide) ?_
    refine gm_vst C hW_23 hS_24 ((27 + 5 * f) + 4) (nI_clamp (by omega)) (vp_in_nI (show (27 + 5 * f) + 4 < 128 by omega) (by decide)) dX8_cools_23 (fun H_26 locs_27 hW_28 hS_29 => ?_)
    obtain ⟨w_30, ew_30⟩ : ∃ Z9, Z9 = upd (X.1 16) ((27 + 5 * f) + 4) 20 := ⟨_, rfl⟩
    have kn_31 : w_30 ((27 + 5 * f) + 4) = 20 := by rw [ew_30]; exact pk_us
    have hW_32 : Wd G (setRow X 16 w_30) H_26 := Wd.cast (by rw [ew_30]; exact st_out) hW_28
    exact g_vret C hr hlk hW_32 hS_29 dX8_cools_24 (by subst ew_30; exact (by first | rfl | (simp only [oM_cools, eq_true b_17, if_true, if_false]; first | done | rfl)))
