/-! The class's other methods. -/
theorem qx_three : Cond.constantDouble "Foundry" 222 4613937818241073152 ∈ lw_all := lw_mem 328 (by decide +kernel) (by decide +kernel)
def mtW (w : Nat → Int32) : Int32 := w (9 + 6 * 0 + 4) + w (9 + 6 * 1 + 4) + w (9 + 6 * 2 + 4)
def oq_fill (w : Nat → Int32) (x : Int32) : Int32 := if sOut x 3 = 0 then (if sumW w (9 + 6 * x.toNatClampNeg) = 0 then nI 2 else 0) else nI 1
def oq_melt (w : Nat → Int32) (x : Int32) : Int32 := if sOut x 3 = 0 then (if wbmW w x.toNatClampNeg = 0 then nI 2 else 0) else nI 1
def oF_meltingPoint (w : Nat → Int32) (x : Int32) : Int32 × Int32 := (oq_fill w x, ptW w (9 + 6 * x.toNatClampNeg))
def oF_meltingPointByDifferences (w : Nat → Int32) (x : Int32) : Int32 × Int32 := (oq_fill w x, pdW w (9 + 6 * x.toNatClampNeg))
def oF_minutesUntilMolten (w : Nat → Int32) (x : Int32) : Int32 × Int32 := (oq_melt w x, mbwW w x.toNatClampNeg)
def oF_minutesUntilMoltenByDivision (w : Nat → Int32) (x : Int32) : Int32 × Int32 := (oq_melt w x, mbdW w x.toNatClampNeg)
def ibmL (w : Nat → Int32) (x : Int32) : Nat → Nat → Int32 × Int32
  | 0, _ => (nI 1, 0)
  | q + 1, k => if nI (rankIL w k (w 43).toNatClampNeg) = x then (0, nI k) else ibmL w x q (k + 1)
def oF_ingotByMass (w : Nat → Int32) (x : Int32) : Int32 × Int32 := ibmL w x (w 43).toNatClampNeg 0
def oF_isConsistent (w : Nat → Int32) : Int32 := if agrW w 0 = 0 then 0 else if agrW w 1 = 0 then 0 else if agrW w 2 = 0 then 0 else if stkW w 0 = w (1 + 0) - w (5 + 0) then (if stkW w 1 = w (1 + 1) - w (5 + 1) then (if stkW w 2 = w (1 + 2) - w (5 + 2) then (if stkW w 3 = w (1 + 3) - w (5 + 3) then 1 else 0) else 0) else 0) else 0
set_option maxHeartbeats 4000000 in
set_option maxRecDepth 100000 in
theorem cX7_requireFilledFurnace_ok (l : Launch) (G : GT) (hst : l.stackTraces = false) (X : St) (x : Int32) : MetXR l G 2 yX7_requireFilledFurnace (wsG yX7_requireFilledFurnace cX7_requireFilledFurnace 3 (some (.object "Foundry$Mixture"))) (rmk 2 7 121) [.ref (ad G 715), .int x] X (fun u => (oq_fill (X.1 0) x = 0 ∧ sOut x 3 = 0) ∧ u.1 = 65 * 0 + (12 + 3 * x.toNatClampNeg) ∧ u.2 = X) (fun E Y => exN ["java/lang/IndexOutOfBoundsException", "java/util/NoSuchElementException"] E (oq_fill (X.1 0) x) ∧ Y = X) := by
  refine g_metX (cc := cX7_requireFilledFurnace) (maxL := 3) (ret := (some (.object "Foundry$Mixture"))) (by decide) rfl (Nat.le_of_ble_eq_true rfl) ?_
  intro p e s m below meth c ls C hr hlk hex hW hl
  have hx := C.1.1
  have hb := C.1.2.1
  have hS : va_S (Ab G) s.heap s.heap [] := va_S.rf
  have hl : lv_has ls 3 [(0, .ref (ad G 715)), (1, .int x)] := hl
  refine lv_iload_n hx hb dX7_requireFilledFurnace_0 rfl (lv_at hl 1 rfl) ?_
  refine lv_iconst (v := 3) hx hb dX7_requireFilledFurnace_1 (by decide) ?_
  refine g_cxv (vx_runS (As := [.int x, .int 3]) (rest := []) C.1 (cX7_requireIndex_ok l G hst X x 3) (va_cwS 2 C.1.2.2.2.2 (gS qw_1078 qw_1079 qw_71 qw_1080) rfl rfl rfl (by decide +kernel) ⟨Nat.le_of_ble_eq_true rfl, Nat.le_of_ble_eq_true rfl⟩) (g_pre C hW hS [.int x, .int 3]) rfl rfl hl.1 rfl (lv_room (Nat.le_of_ble_eq_true rfl)) dX7_requireFilledFurnace_2 ⟨by decide, by decide⟩) hS ?_ ?_
  · intro E9 ce9 q9 Y_2 H9 locs9 hW9 hS9 h_1 h91 h92 h93
    obtain ⟨⟨hE_5, b_4⟩, hy_3⟩ := h_1
    replace hy_3 := hy_3.symm
    subst hy_3
    subst hE_5
    exact g_out hex hlk hW9 hS9 (by exact ⟨⟨0, rfl, by simp only [oq_fill, oq_melt, b_4, if_true, if_false]⟩, rfl⟩) h91 h92 h93 (by decide) (by decide)
  intro Y_7 H_11 locs_12 hW_9 hS_10 h_6
  obtain ⟨b_14, hy_13⟩ := h_6
  replace hy_13 := hy_13.symm
  subst hy_13
  obtain ⟨f_15, hf_15, rfl⟩ := sOut_in3 b_14
  refine lv_aload_n hx hb dX7_requireFilledFurnace_5 rfl (lv_at hl 0 rfl) ?_
  refine gF_plant C hW_9 (hwc hwX7) (mc qw_287) dX7_requireFilledFurnace_6 ?_
  refine gP_furnacesN C hW_9 h0_11 (hwc hwX4) nw_0 dX7_requireFilledFurnace_9 ?_
  refine lv_iload_n hx hb dX7_requireFilledFurnace_12 rfl (lv_at hl 1 rfl) ?_
  refine g_fur C hW_9 h0_11 f_15 (nI_clamp (by omega)) (vp_in_nI hf_15 (by decide)) dX7_requireFilledFurnace_13 ?_
  refine g_contentN C hW_9 (ves_fur (G := G) h0_11 hf_15) (hwc hwX6) nw_1 dX7_requireFilledFurnace_14 ?_
  refine lv_astore_n (lv' := [(2, .ref (ad G (65 * 0 + (12 + 3 * f_15)))), (0, .ref (ad G 715)), (1, .int (nI f_15))]) hx hb dX7_requireFilledFurnace_17 rfl hl (by decide) rfl (fun ls_16 hl_17 => ?_)
  refine lv_aload_n hx hb dX7_requireFilledFurnace_18 rfl (lv_at hl_17 0 rfl) ?_
  refine g_calli (va_runV (As := []) (rest := []) C.1 (cX3_sum_ok l G X (65 * 0 + (12 + 3 * f_15)) (65 * 0 + (13 + 3 * f_15)) 0 (9 + 6 * f_15) ((ves_fur (G := G) h0_11 hf_15).mix)) (cwV 0 C.1.2.2.2.2 (gV qw_1093 qw_338 qw_339 qw_73 qw_340) rfl rfl rfl (by decide +kernel) ⟨Nat.le_of_ble_eq_true rfl, Nat.le_of_ble_eq_true rfl⟩) (g_rMix C hW_9 hS_10 (ves_fur (G := G) h0_11 hf_15).mix []) rfl rfl hl_17.1 rfl (lv_room (Nat.le_of_ble_eq_true rfl)) dX7_requireFilledFurnace_19 ⟨by decide, by decide⟩) hS_10 (fun r_19 Y_20 H_21 locs_22 hW_23 hS_24 h_18 => ?_)
  obtain ⟨h_18, hy_25⟩ := h_18
  replace hy_25 := hy_25.symm
  subst hy_25
  subst h_18
  refine lv_if_ne (tgt := 33) hx hb dX7_requireFilledFurnace_22 (by decide) (fun b_26 => ?_) (fun b_26 => ?_)
  · refine lv_aload_n hx hb dX7_requireFilledFurnace_33 rfl (lv_at hl_17 0 rfl) ?_
    refine W.widen (k := 2) (n := 12) (by decide) (by decide) ?_
    refine vx_ret ?_
    exact g_aret C hr hlk hW_23 hS_24 dX7_requireFilledFurnace_34 (by exact ⟨⟨by simp only [oq_fill, clf (show f_15 < 2 ^ 31 by omega), b_14, b_26, if_true, if_false], b_14⟩, by simp only [clf (show f_15 < 2 ^ 31 by omega)], rfl⟩)
  · exact g_thr0 C hst (ik := 108) (ic := 110) (names := ["java/lang/RuntimeException", "java/lang/Exception"]) hex hlk hl_17.1 (by decide) (by decide) (mc qk_NSEE) (mc qi_NSEE) (fun w hw => mc (qg_NSEE w hw)) qn_NSEE nest_on qo_NSEE dX7_requireFilledFurnace_25 dX7_requireFilledFurnace_28 dX7_requireFilledFurnace_29 dX7_requireFilledFurnace_32 (Nat.le_of_ble_eq_true rfl) (Nat.le_of_ble_eq_true rfl) (by decide) (by decide) (by decide) (by decide) hW_23 hS_24 (by exact ⟨⟨1, rfl, by simp only [oq_fill, oq_melt, clf (show f_15 < 2 ^ 31 by omega), b_14, b_26, if_true, if_false]⟩, rfl⟩)

set_option maxHeartbeats 4000000 in
set_option maxRecDepth 100000 in
theorem cX7_requireMeltingFurnace_ok (l : Launch) (G : GT) (hst : l.stackTraces = false) (X : St) (x : Int32) : MetXV l G 2 yX7_requireMeltingFurnace (wsG yX7_requireMeltingFurnace cX7_requireMeltingFurnace 2 none) (rmk 2 7 121) [.ref (ad G 715), .int x] X (fun Y => (oq_melt (X.1 0) x = 0 ∧ sOut x 3 = 0) ∧ Y = X) (fun E Y => exN ["java/lang/IndexOutOfBoundsException", "java/util/NoSuchElementException"] E (oq_melt (X.1 0) x) ∧ Y = X) := by
  refine g_metX (cc := cX7_requireMeltingFurnace) (maxL := 2) (ret := none) (by decide) rfl (Nat.le_of_ble_eq_true rfl) ?_
  intro p e s m below meth c ls C hr hlk hex hW hl
  have hx := C.1.1
  have hb := C.1.2.1
  have hS : va_S (Ab G) s.heap s.heap [] := va_S.rf
  have hl : lv_has ls 2 [(0, .ref (ad G 715)), (1, .int x)] := hl
  refine lv_iload_n hx hb dX7_requireMeltingFurnace_0 rfl (lv_at hl 1 rfl) ?_
  refine lv_iconst (v := 3) hx hb dX7_requireMeltingFurnace_1 (by decide) ?_
  refine g_cxv (vx_runS (As := [.int x, .int 3]) (rest := []) C.1 (cX7_requireIndex_ok l G hst X x 3) (va_cwS 2 C.1.2.2.2.2 (gS qw_1078 qw_1079 qw_71 qw_1080) rfl rfl rfl (by decide +kernel) ⟨Nat.le_of_ble_eq_true rfl, Nat.le_of_ble_eq_true rfl⟩) (g_pre C hW hS [.int x, .int 3]) rfl rfl hl.1 rfl (lv_room (Nat.le_of_ble_eq_true rfl)) dX7_requireMeltingFurnace_2 ⟨by decide, by decide⟩) hS ?_ ?_
  · intro E9 ce9 q9 Y_2 H9 locs9 hW9 hS9 h_1 h91 h92 h93
    obtain ⟨⟨hE_5, b_4⟩, hy_3⟩ := h_1
    replace hy_3 := hy_3.symm
    subst hy_3
    subst hE_5
    exact g_out hex hlk hW9 hS9 (by exact ⟨⟨0, rfl, by simp only [oq_fill, oq_melt, b_4, if_true, if_false]⟩, rfl⟩) h91 h92 h93 (by decide) (by decide)
  intro Y_7 H_11 locs_12 hW_9 hS_10 h_6
  obtain ⟨b_14, hy_13⟩ := h_6
  replace hy_13 := hy_13.symm
  subst hy_13
  obtain ⟨f_15, hf_15, rfl⟩ := sOut_in3 b_14
  refine lv_aload_n hx hb dX7_requireMeltingFurnace_5 rfl (lv_at hl 0 rfl) ?_
  refine gF_plant C hW_9 (hwc hwX7) (mc qw_287) dX7_requireMeltingFurnace_6 ?_
  refine lv_iload_n hx hb dX7_requireMeltingFurnace_9 rfl (lv_at hl 1 rfl) ?_
  refine g_calli (va_runV (As := [.int (nI f_15)]) (rest := []) C.1 (cX4_willBeMolten_ok l G X 0 h0_11 f_15 hf_15) (cwV 1 C.1.2.2.2.2 (gV qw_1147 qw_352 qw_353 qw_72 qw_354) rfl rfl rfl (by decide +kernel) ⟨Nat.le_of_ble_eq_true rfl, Nat.le_of_ble_eq_true rfl⟩) (g_rPlant C hW_9 hS_10 h0_11 [.int (nI f_15)]) rfl rfl hl.1 rfl (lv_room (Nat.le_of_ble_eq_true rfl)) dX7_requireMeltingFurnace_10 ⟨by decide, by decide⟩) hS_10 (fun r_17 Y_18 H_19 locs_20 hW_21 hS_22 h_16 => ?_)
  obtain ⟨h_16, hy_23⟩ := h_16
  replace hy_23 := hy_23.symm
  subst hy_23
  subst h_16
  refine lv_if_ne (tgt := 24) hx hb dX7_requireMeltingFurnace_13 (by decide) (fun b_24 => ?_) (fun b_24 => ?_)
  · refine W.widen (k := 2) (n := 12) (by decide) (by decide) ?_
    refine vx_ret ?_
    exact g_vret C hr hlk hW_21 hS_22 dX7_requireMeltingFurnace_24 (by exact ⟨⟨by simp only [oq_melt, clf (show f_15 < 2 ^ 31 by omega), b_14, b_24, if_true, if_false], b_14⟩, rfl⟩)
  · exact g_thr0 C hst (ik := 108) (ic := 110) (names := ["java/lang/RuntimeException", "java/lang/Exception"]) hex hlk hl.1 (by decide) (by decide) (mc qk_NSEE) (mc qi_NSEE) (fun w hw => mc (qg_NSEE w hw)) qn_NSEE nest_on qo_NSEE dX7_requireMeltingFurnace_16 dX7_requireMeltingFurnace_19 dX7_requireMeltingFurnace_20 dX7_requireMeltingFurnace_23 (Nat.le_of_ble_eq_true rfl) (Nat.le_of_ble_eq_true rfl) (by decide) (by decide) (by decide) (by decide) hW_21 hS_22 (by exact ⟨⟨1, rfl, by simp only [oq_fill, oq_melt, clf (show f_15 < 2 ^ 31 by omega), b_14, b_24, if_true, if_false]⟩, rfl⟩)

set_option maxHeartbeats 4000000 in
set_option maxRecDepth 100000 in
theorem cX7_meltingPoint_ok (l : Launch) (G : GT) (hst : l.stackTraces = false) (X : St) (x : Int32) : MetXI l G 2 yX7_meltingPoint (wsG yX7_meltingPoint cX7_meltingPoint 2 (some .int)) (rmk 2 8 143) [.ref (ad G 715), .int x] X (fun res Y => ((oF_meltingPoint (X.1 0) x).1 = 0 ∧ res = (oF_meltingPoint (X.1 0) x).2) ∧ Y = X) (fun E Y => exN ["java/lang/IndexOutOfBoundsException", "java/util/NoSuchElementException"] E (oF_meltingPoint (X.1 0) x).1 ∧ Y = X) := by
  refine g_metX (cc := cX7_meltingPoint) (maxL := 2) (ret := (some .int)) (by decide) rfl (Nat.le_of_ble_eq_true rfl) ?_
  intro p e s m below meth c ls C hr hlk hex hW hl
  have hx := C.1.1
  have hb := C.1.2.1
  have hS : va_S (Ab G) s.heap s.heap [] := va_S.rf
  have hl : lv_has ls 2 [(0, .ref (ad G 715)), (1, .int x)] := hl
  refine lv_aload_n hx hb dX7_meltingPoint_0 rfl (lv_at hl 0 rfl) ?_
  refine lv_iload_n hx hb dX7_meltingPoint_1 rfl (lv_at hl 1 rfl) ?_
  refine g_cxr (vx_runV (As := [.int x]) (rest := []) C.1 (cX7_requireFilledFurnace_ok l G hst X x) (cwV 1 C.1.2.2.2.2 (gV qw_1115 qw_1117 qw_15 qw_71 qw_1118) rfl rfl rfl (by decide +kernel) ⟨Nat.le_of_ble_eq_true rfl, Nat.le_of_ble_eq_true rfl⟩) (g_rFoundry C hW hS [.int x]) rfl rfl hl.1 rfl (lv_room (Nat.le_of_ble_eq_true rfl)) dX7_meltingPoint_2 ⟨by decide, by decide⟩) hS ?_ ?_
  · intro E9 ce9 q9 Y_2 H9 locs9 hW9 hS9 h_1 h91 h92 h93
    obtain ⟨b_3, hy_4⟩ := h_1
    replace hy_4 := hy_4.symm
    subst hy_4
    exact g_out hex hlk hW9 hS9 (by exact ⟨b_3, rfl⟩) h91 h92 h93 (by decide) (by decide)
  intro r_7 Y_6 H_10 locs_11 hW_8 hS_9 h_5
  obtain ⟨⟨b_12, b_13⟩, hr_14, hy_15⟩ := h_5
  dsimp only at hr_14 hy_15
  replace hy_15 := hy_15.symm
  subst hy_15
  obtain ⟨f_16, hf_16, rfl⟩ := sOut_in3 b_13
  rw [clf (show f_16 < 2 ^ 31 by omega)] at hr_14
  subst hr_14
  refine g_calli (va_runV (As := []) (rest := []) C.1 (cX3_pointBySums_ok l G X (65 * 0 + (12 + 3 * f_16)) (65 * 0 + (13 + 3 * f_16)) 0 (9 + 6 * f_16) ((ves_fur (G := G) h0_11 hf_16).mix)) (cwV 0 C.1.2.2.2.2 (gV qw_1119 qw_342 qw_343 qw_73 qw_344) rfl rfl rfl (by decide +kernel) ⟨Nat.le_of_ble_eq_true rfl, Nat.le_of_ble_eq_true rfl⟩) (g_rMix C hW_8 hS_9 (ves_fur (G := G) h0_11 hf_16).mix []) rfl rfl hl.1 rfl (lv_room (Nat.le_of_ble_eq_true rfl)) dX7_meltingPoint_5 ⟨by decide, by decide⟩) hS_9 (fun r_18 Y_19 H_20 locs_21 hW_22 hS_23 h_17 => ?_)
  obtain ⟨h_17, hy_24⟩ := h_17
  replace hy_24 := hy_24.symm
  subst hy_24
  subst h_17
  refine W.widen (k := 2) (n := 12) (by decide) (by decide) ?_
  refine vx_ret ?_
  exact g_iret C hr hlk hW_22 hS_23 dX7_meltingPoint_8 (by exact ⟨⟨by simp only [oF_meltingPoint, clf (show f_16 < 2 ^ 31 by omega), b_12, if_true, if_false], by simp only [oF_meltingPoint, clf (show f_16 < 2 ^ 31 by omega), b_12, if_true, if_false]⟩, rfl⟩)

set_option maxHeartbeats 4000000 in
set_option maxRecDepth 100000 in
theorem cX7_meltingPointByDifferences_ok (l : Launch) (G : GT) (hst : l.stackTraces = false) (X : St) (x : Int32) : MetXI l G 2 yX7_meltingPointByDifferences (wsG yX7_meltingPointByDifferences cX7_meltingPointByDifferences 2 (some .int)) (rmk 2 8 143) [.ref (ad G 715), .int x] X (fun res Y => ((oF_meltingPointByDifferences (X.1 0) x).1 = 0 ∧ res = (oF_meltingPointByDifferences (X.1 0) x).2) ∧ Y = X) (fun E Y => exN ["java/lang/IndexOutOfBoundsException", "java/util/NoSuchElementException"] E (oF_meltingPointByDifferences (X.1 0) x).1 ∧ Y = X) := by
  refine g_metX (cc := cX7_meltingPointByDifferences) (maxL := 2) (ret := (some .int)) (by decide) rfl (Nat.le_of_ble_eq_true rfl) ?_
  intro p e s m below meth c ls C hr hlk hex hW hl
  have hx := C.1.1
  have hb := C.1.2.1
  have hS : va_S (Ab G) s.heap s.heap [] := va_S.rf
  have hl : lv_has ls 2 [(0, .ref (ad G 715)), (1, .int x)] := hl
  refine lv_aload_n hx hb dX7_meltingPointByDifferences_0 rfl (lv_at hl 0 rfl) ?_
  refine lv_iload_n hx hb dX7_meltingPointByDifferences_1 rfl (lv_at hl 1 rfl) ?_
  refine g_cxr (vx_runV (As := [.int x]) (rest := []) C.1 (cX7_requireFilledFurnace_ok l G hst X x) (cwV 1 C.1.2.2.2.2 (gV qw_1115 qw_1117 qw_15 qw_71 qw_1118) rfl rfl rfl (by decide +kernel) ⟨Nat.le_of_ble_eq_true rfl, Nat.le_of_ble_eq_true rfl⟩) (g_rFoundry C hW hS [.int x]) rfl rfl hl.1 rfl (lv_room (Nat.le_of_ble_eq_true rfl)) dX7_meltingPointByDifferences_2 ⟨by decide, by decide⟩) hS ?_ ?_
  · intro E9 ce9 q9 Y_2 H9 locs9 hW9 hS9 h_1 h91 h92 h93
    obtain ⟨b_3, hy_4⟩ := h_1
    replace hy_4 := hy_4.symm
    subst hy_4
    exact g_out hex hlk hW9 hS9 (by exact ⟨b_3, rfl⟩) h91 h92 h93 (by decide) (by decide)
  intro r_7 Y_6 H_10 locs_11 hW_8 hS_9 h_5
  obtain ⟨⟨b_12, b_13⟩, hr_14, hy_15⟩ := h_5
  dsimp only at hr_14 hy_15
  replace hy_15 := hy_15.symm
  subst hy_15
  obtain ⟨f_16, hf_16, rfl⟩ := sOut_in3 b_13
  rw [clf (show f_16 < 2 ^ 31 by omega)] at hr_14
  subst hr_14
  refine g_calli (va_runV (As := []) (rest := []) C.1 (cX3_pointByDifferences_ok l G X (65 * 0 + (12 + 3 * f_16)) (65 * 0 + (13 + 3 * f_16)) 0 (9 + 6 * f_16) ((ves_fur (G := G) h0_11 hf_16).mix)) (cwV 0 C.1.2.2.2.2 (gV qw_1127 qw_348 qw_349 qw_73 qw_350) rfl rfl rfl (by decide +kernel) ⟨Nat.le_of_ble_eq_true rfl, Nat.le_of_ble_eq_true rfl⟩) (g_rMix C hW_8 hS_9 (ves_fur (G := G) h0_11 hf_16).mix []) rfl rfl hl.1 rfl (lv_room (Nat.le_of_ble_eq_true rfl)) dX7_meltingPointByDifferences_5 ⟨by decide, by decide⟩) hS_9 (fun r_18 Y_19 H_20 locs_21 hW_22 hS_23 h_17 => ?_)
  obtain ⟨h_17, hy_24⟩ := h_17
  replace hy_24 := hy_24.symm
  subst hy_24
  subst h_17
  refine W.widen (k := 2) (n := 12) (by decide) (by decide) ?_
  refine vx_ret ?_
  exact g_iret C hr hlk hW_22 hS_23 dX7_meltingPointByDifferences_8 (by exact ⟨⟨by simp only [oF_meltingPointByDifferences, clf (show f_16 < 2 ^ 31 by omega), b_12, if_true, if_false], by simp only [oF_meltingPointByDifferences, clf (show f_16 < 2 ^ 31 by omega), b_12, if_true, if_false]⟩, rfl⟩)

set_option maxHeartbeats 4000000 in
set_option maxRecDepth 100000 in
theorem cX7_minutesUntilMolten_ok (l : Launch) (G : GT) (hst : l.stackTraces = false) (X : St) (x : Int32) : MetXI l G 2 yX7_minutesUntilMolten (wsG yX7_minutesUntilMolten cX7_minutesUntilMolten 2 (some .int)) (rmk 2 8 142) [.ref (ad G 715), .int x] X (fun res Y => ((oF_minutesUntilMolten (X.1 0) x).1 = 0 ∧ res = (oF_minutesUntilMolten (X.1 0) x).2) ∧ Y = X) (fun E Y => exN ["java/lang/IndexOutOfBoundsException", "java/util/NoSuchElementException"] E (oF_minutesUntilMolten (X.1 0) x).1 ∧ Y = X) := by
  refine g_metX (cc := cX7_minutesUntilMolten) (maxL := 2) (ret := (some .int)) (by decide) rfl (Nat.le_of_ble_eq_true rfl) ?_
  intro p e s m below meth c ls C hr hlk hex hW hl
  have hx := C.1.1
  have hb := C.1.2.1
  have hS : va_S (Ab G) s.heap s.heap [] := va_S.rf
  have hl : lv_has ls 2 [(0, .ref (ad G 715)), (1, .int x)] := hl
  refine lv_aload_n hx hb dX7_minutesUntilMolten_0 rfl (lv_at hl 0 rfl) ?_
  refine lv_iload_n hx hb dX7_minutesUntilMolten_1 rfl (lv_at hl 1 rfl) ?_
  refine g_cxv (vx_runV (As := [.int x]) (rest := []) C.1 (cX7_requireMeltingFurnace_ok l G hst X x) (cwV 1 C.1.2.2.2.2 (gV qw_1143 qw_1145 qw_16 qw_71 qw_1146) rfl rfl rfl (by decide +kernel) ⟨Nat.le_of_ble_eq_true rfl, Nat.le_of_ble_eq_true rfl⟩) (g_rFoundry C hW hS [.int x]) rfl rfl hl.1 rfl (lv_room (Nat.le_of_ble_eq_true rfl)) dX7_minutesUntilMolten_2 ⟨by decide, by decide⟩) hS ?_ ?_
  · intro E9 ce9 q9 Y_2 H9 locs9 hW9 hS9 h_1 h91 h92 h93
    obtain ⟨b_3, hy_4⟩ := h_1
    replace hy_4 := hy_4.symm
    subst hy_4
    exact g_out hex hlk hW9 hS9 (by exact ⟨b_3, rfl⟩) h91 h92 h93 (by decide) (by decide)
  intro Y_6 H_10 locs_11 hW_8 hS_9 h_5
  obtain ⟨⟨b_12, b_13⟩, hy_15⟩ := h_5
  replace hy_15 := hy_15.symm
  subst hy_15
  obtain ⟨f_16, hf_16, rfl⟩ := sOut_in3 b_13
  refine lv_aload_n hx hb dX7_minutesUntilMolten_5 rfl (lv_at hl 0 rfl) ?_
  refine gF_plant C hW_8 (hwc hwX7) (mc qw_287) dX7_minutesUntilMolten_6 ?_
  refine lv_iload_n hx hb dX7_minutesUntilMolten_9 rfl (lv_at hl 1 rfl) ?_
  refine g_calli (va_runV (As := [.int (nI f_16)]) (rest := []) C.1 (cX4_minutesByWaiting_ok l G X 0 h0_11 f_16 hf_16) (cwV 1 C.1.2.2.2.2 (gV qw_1148 qw_362 qw_363 qw_72 qw_364) rfl rfl rfl (by decide +kernel) ⟨Nat.le_of_ble_eq_true rfl, Nat.le_of_ble_eq_true rfl⟩) (g_rPlant C hW_8 hS_9 h0_11 [.int (nI f_16)]) rfl rfl hl.1 rfl (lv_room (Nat.le_of_ble_eq_true rfl)) dX7_minutesUntilMolten_10 ⟨by decide, by decide⟩) hS_9 (fun r_18 Y_19 H_20 locs_21 hW_22 hS_23 h_17 => ?_)
  obtain ⟨h_17, hy_24⟩ := h_17
  replace hy_24 := hy_24.symm
  subst hy_24
  subst h_17
  refine W.widen (k := 2) (n := 12) (by decide) (by decide) ?_
  refine vx_ret ?_
  exact g_iret C hr hlk hW_22 hS_23 dX7_minutesUntilMolten_13 (by exact ⟨⟨by simp only [oF_minutesUntilMolten, clf (show f_16 < 2 ^ 31 by omega), b_12, if_true, if_false], by simp only [oF_minutesUntilMolten, clf (show f_16 < 2 ^ 31 by omega), b_12, if_true, if_false]⟩, rfl⟩)

set_option maxHeartbeats 4000000 in
set_option maxRecDepth 100000 in
theorem cX7_minutesUntilMoltenByDivision_ok (l : Launch) (G : GT) (hst : l.stackTraces = false) (X : St) (x : Int32) : MetXI l G 2 yX7_minutesUntilMoltenByDivision (wsG yX7_minutesUntilMoltenByDivision cX7_minutesUntilMoltenByDivision 2 (some .int)) (rmk 2 8 142) [.ref (ad G 715), .int x] X (fun res Y => ((oF_minutesUntilMoltenByDivision (X.1 0) x).1 = 0 ∧ res = (oF_minutesUntilMoltenByDivision (X.1 0) x).2) ∧ Y = X) (fun E Y => exN ["java/lang/IndexOutOfBoundsException", "java/util/NoSuchElementException"] E (oF_minutesUntilMoltenByDivision (X.1 0) x).1 ∧ Y = X) := by
  refine g_metX (cc := cX7_minutesUntilMoltenByDivision) (maxL := 2) (ret := (some .int)) (by decide) rfl (Nat.le_of_ble_eq_true rfl) ?_
  intro p e s m below meth c ls C hr hlk hex hW hl
  have hx := C.1.1
  have hb := C.1.2.1
  have hS : va_S (Ab G) s.heap s.heap [] := va_S.rf
  have hl : lv_has ls 2 [(0, .ref (ad G 715)), (1, .int x)] := hl
  refine lv_aload_n hx hb dX7_minutesUntilMoltenByDivision_0 rfl (lv_at hl 0 rfl) ?_
  refine lv_iload_n hx hb dX7_minutesUntilMoltenByDivision_1 rfl (lv_at hl 1 rfl) ?_
  refine g_cxv (vx_runV (As := [.int x]) (rest := []) C.1 (cX7_requireMeltingFurnace_ok l G hst X x) (cwV 1 C.1.2.2.2.2 (gV qw_1143 qw_1145 qw_16 qw_71 qw_1146) rfl rfl rfl (by decide +kernel) ⟨Nat.le_of_ble_eq_true rfl, Nat.le_of_ble_eq_true rfl⟩) (g_rFoundry C hW hS [.int x]) rfl rfl hl.1 rfl (lv_room (Nat.le_of_ble_eq_true rfl)) dX7_minutesUntilMoltenByDivision_2 ⟨by decide, by decide⟩) hS ?_ ?_
  · intro E9 ce9 q9 Y_2 H9 locs9 hW9 hS9 h_1 h91 h92 h93
    obtain ⟨b_3, hy_4⟩ := h_1
    replace hy_4 := hy_4.symm
    subst hy_4
    exact g_out hex hlk hW9 hS9 (by exact ⟨b_3, rfl⟩) h91 h92 h93 (by decide) (by decide)
  intro Y_6 H_10 locs_11 hW_8 hS_9 h_5
  obtain ⟨⟨b_12, b_13⟩, hy_15⟩ := h_5
  replace hy_15 := hy_15.symm
  subst hy_15
  obtain ⟨f_16, hf_16, rfl⟩ := sOut_in3 b_13
  refine lv_aload_n hx hb dX7_minutesUntilMoltenByDivision_5 rfl (lv_at hl 0 rfl) ?_
  refine gF_plant C hW_8 (hwc hwX7) (mc qw_287) dX7_minutesUntilMoltenByDivision_6 ?_
  refine lv_iload_n hx hb dX7_minutesUntilMoltenByDivision_9 rfl (lv_at hl 1 rfl) ?_
  refine g_calli (va_runV (As := [.int (nI f_16)]) (rest := []) C.1 (cX4_minutesByDivision_ok l G X 0 h0_11 f_16 hf_16) (cwV 1 C.1.2.2.2.2 (gV qw_1156 qw_374 qw_375 qw_72 qw_376) rfl rfl rfl (by decide +kernel) ⟨Nat.le_of_ble_eq_true rfl, Nat.le_of_ble_eq_true rfl⟩) (g_rPlant C hW_8 hS_9 h0_11 [.int (nI f_16)]) rfl rfl hl.1 rfl (lv_room (Nat.le_of_ble_eq_true rfl)) dX7_minutesUntilMoltenByDivision_10 ⟨by decide, by decide⟩) hS_9 (fun r_18 Y_19 H_20 locs_21 hW_22 hS_23 h_17 => ?_)
  obtain ⟨h_17, hy_24⟩ := h_17
  replace hy_24 := hy_24.symm
  subst hy_24
  subst h_17
  refine W.widen (k := 2) (n := 12) (by decide) (by decide) ?_
  refine vx_ret ?_
  exact g_iret C hr hlk hW_22 hS_23 dX7_minutesUntilMoltenByDivision_13 (by exact ⟨⟨by simp only [oF_minutesUntilMoltenByDivision, clf (show f_16 < 2 ^ 31 by omega), b_12, if_true, if_false], by simp only [oF_minutesUntilMoltenByDivision, clf (show f_16 < 2 ^ 31 by omega), b_12, if_true, if_false]⟩, rfl⟩)

set_option maxHeartbeats 4000000 in
set_option maxRecDepth 100000 in
theorem cX7_mouldCount_ok (l : Launch) (G : GT) (X : St) : MetI l G yX7_mouldCount (wsG yX7_mouldCount cX7_mouldCount 1 (some .int)) (rmz 0 0) [.ref (ad G 715)] X (fun res Y => res = X.1 0 42 ∧ Y = X) := by
  refine g_met (cc := cX7_mouldCount) (maxL := 1) (ret := (some .int)) (by decide) rfl (Nat.le_of_ble_eq_true rfl) ?_
  intro p e s m below meth c ls C hr hlk hnm hW hl
  have hx := C.1.1
  have hb := C.1.2.1
  have hS : va_S (Ab G) s.heap s.heap [] := va_S.rf
  have hl : lv_has ls 1 [(0, .ref (ad G 715))] := hl
  refine lv_aload_n hx hb dX7_mouldCount_0 rfl (lv_at hl 0 rfl) ?_
  refine gF_plant C hW (hwc hwX7) (mc qw_287) dX7_mouldCount_1 ?_
  refine gP_mouldCountN C hW h0_11 (hwc hwX4) nw_6 dX7_mouldCount_4 ?_
  exact g_iret C hr hlk hW hS dX7_mouldCount_7 (by exact ⟨rfl, rfl⟩)

set_option maxHeartbeats 4000000 in
set_option maxRecDepth 100000 in
theorem cX7_ingotCount_ok (l : Launch) (G : GT) (X : St) : MetI l G yX7_ingotCount (wsG yX7_ingotCount cX7_ingotCount 1 (some .int)) (rmz 0 0) [.ref (ad G 715)] X (fun res Y => res = X.1 0 43 ∧ Y = X) := by
  refine g_met (cc := cX7_ingotCount) (maxL := 1) (ret := (some .int)) (by decide) rfl (Nat.le_of_ble_eq_true rfl) ?_
  intro p e s m below meth c ls C hr hlk hnm hW hl
  have hx := C.1.1
  have hb := C.1.2.1
  have hS : va_S (Ab G) s.heap s.heap [] := va_S.rf
  have hl : lv_has ls 1 [(0, .ref (ad G 715))] := hl
  refine lv_aload_n hx hb dX7_ingotCount_0 rfl (lv_at hl 0 rfl) ?_
  refine gF_plant C hW (hwc hwX7) (mc qw_287) dX7_ingotCount_1 ?_
  refine gP_ingotCountN C hW h0_11 (hwc hwX4) nw_9 dX7_ingotCount_4 ?_
  exact g_iret C hr hlk hW hS dX7_ingotCount_7 (by exact ⟨rfl, rfl⟩)

set_option maxHeartbeats 4000000 in
set_option maxRecDepth 100000 in
theorem cX7_time_ok (l : Launch) (G : GT) (X : St) : MetI l G yX7_time (wsG yX7_time cX7_time 1 (some .int)) (rmz 0 0) [.ref (ad G 715)] X (fun res Y => res = X.1 0 0 ∧ Y = X) := by
  refine g_met (cc := cX7_time) (maxL := 1) (ret := (some .int)) (by decide) rfl (Nat.le_of_ble_eq_true rfl) ?_
  intro p e s m below meth c ls C hr hlk hnm hW hl
  have hx := C.1.1
  have hb := C.1.2.1
  have hS : va_S (Ab G) s.heap s.heap [] := va_S.rf
  have hl : lv_has ls 1 [(0, .ref (ad G 715))] := hl
  refine lv_aload_n hx hb dX7_time_0 rfl (lv_at hl 0 rfl) ?_
  refine gF_plant C hW (hwc hwX7) (mc qw_287) dX7_time_1 ?_
  refine gP_minutesN C hW h0_11 (hwc hwX4) nw_11 dX7_time_4 ?_
  exact g_iret C hr hlk hW hS dX7_time_7 (by exact ⟨rfl, rfl⟩)

set_option maxHeartbeats 4000000 in
set_option maxRecDepth 100000 in
theorem cX7_ingotByMass_ok (l : Launch) (G : GT) (hst : l.stackTraces = false) (X : St) (hi : PInv (X.1 0)) (x : Int32) : MetXI l G 1 yX7_ingotByMass (wsG yX7_ingotByMass cX7_ingotByMass 3 (some .int)) (rmk 1 6 100) [.ref (ad G 715), .int x] X (fun res Y => ((oF_ingotByMass (X.1 0) x).1 = 0 ∧ res = (oF_ingotByMass (X.1 0) x).2) ∧ Y = X) (fun E Y => exN ["java/util/NoSuchElementException"] E (oF_ingotByMass (X.1 0) x).1 ∧ Y = X) := by
  refine g_metX (cc := cX7_ingotByMass) (maxL := 3) (ret := (some .int)) (by decide) rfl (Nat.le_of_ble_eq_true rfl) ?_
  intro p e s m below meth c ls C hr hlk hex hW hl
  have hx := C.1.1
  have hb := C.1.2.1
  have hS : va_S (Ab G) s.heap s.heap [] := va_S.rf
  have hl : lv_has ls 3 [(0, .ref (ad G 715)), (1, .int x)] := hl
  obtain ⟨⟨km, hkm, em⟩, ⟨ki, hki, ei⟩⟩ := hi
  refine lv_iconst (v := 0) hx hb dX7_ingotByMass_0 (by decide) ?_
  refine lv_istore_n (lv' := [(2, .int 0), (0, .ref (ad G 715)), (1, .int x)]) hx hb dX7_ingotByMass_1 rfl hl (by decide) rfl (fun ls_1 hl_2 => ?_)
  have loop : ∀ (q : Nat) (kk : Nat) (H : Heap) (locs : List Loc) (ls : Array Slot), kk + q = ki → ibmL (X.1 0) x q kk = oF_ingotByMass (X.1 0) x → Wd G (X) H → va_S (Ab G) s.heap H locs → lv_has ls 3 [(2, .int (nI kk)), (0, .ref (ad G 715)), (1, .int x)] → W p l e (rmk 1 6 100) s m ([.ref (ad G 715), .int x] : List Value).toArray below meth c H locs 0 0 (vx_MQ below (Ki G (fun res Y => ((oF_ingotByMass (X.1 0) x).1 = 0 ∧ res = (oF_ingotByMass (X.1 0) x).2) ∧ Y = X)) (KX G (fun E Y => exN ["java/util/NoSuchElementException"] E (oF_ingotByMass (X.1 0) x).1 ∧ Y = X)) ([.ref (ad G 715), .int x] : List Value).toArray s 1 6 (Ab G)) (F0 m 2 ls []) := by
    intro q
    induction q with
    | zero =>
      intro kk H locs ls hq hf hW hS hl
      refine lv_iload_n hx hb dX7_ingotByMass_2 rfl (lv_at hl 0 rfl) ?_
      refine lv_aload_n hx hb dX7_ingotByMass_3 rfl (lv_at hl 1 rfl) ?_
      refine gF_plant C hW (hwc hwX7) (mc qw_287) dX7_ingotByMass_4 ?_
      refine gP_ingotCountN C hW h0_11 (hwc hwX4) nw_9 dX7_ingotByMass_7 ?_
      refine g_top (y := nI ki) ei ?_
      refine lv_icmp_ge (tgt := 33) hx hb dX7_ingotByMass_10 (by decide) (fun _ => ?_) (fun h9 => absurd (nI_le (by omega) (by omega)) h9)
      exact g_thr0 C hst (ik := 108) (ic := 110) (names := ["java/lang/RuntimeException", "java/lang/Exception"]) hex hlk hl.1 (by decide) (by decide) (mc qk_NSEE) (mc qi_NSEE) (fun w hw => mc (qg_NSEE w hw)) qn_NSEE nest_on qo_NSEE dX7_ingotByMass_33 dX7_ingotByMass_36 dX7_ingotByMass_37 dX7_ingotByMass_40 (Nat.le_of_ble_eq_true rfl) (Nat.le_of_ble_eq_true rfl) (by decide) (by decide) (by decide) (by decide) hW hS ⟨⟨0, rfl, by rw [← hf]; rfl⟩, rfl⟩
    | succ q ih =>
      intro kk H locs ls hq hf hW hS hl
      refine lv_iload_n hx hb dX7_ingotByMass_2 rfl (lv_at hl 0 rfl) ?_
      refine lv_aload_n hx hb dX7_ingotByMass_3 rfl (lv_at hl 1 rfl) ?_
      refine gF_plant C hW (hwc hwX7) (mc qw_287) dX7_ingotByMass_4 ?_
      refine gP_ingotCountN C hW h0_11 (hwc hwX4) nw_9 dX7_ingotByMass_7 ?_
      refine g_top (y := nI ki) ei ?_
      refine lv_icmp_ge (tgt := 33) hx hb dX7_ingotByMass_10 (by decide) (fun h9 => absurd h9 (nI_ge (by omega) (by omega))) (fun _ => ?_)
      refine lv_aload_n hx hb dX7_ingotByMass_13 rfl (lv_at hl 1 rfl) ?_
      refine gF_plant C hW (hwc hwX7) (mc qw_287) dX7_ingotByMass_14 ?_
      refine lv_iload_n hx hb dX7_ingotByMass_17 rfl (lv_at hl 0 rfl) ?_
      refine g_calli (va_runV (As := [.int (nI kk)]) (rest := []) C.1 (cX4_rankOfIngot_ok l G X 0 h0_11 (⟨⟨km, hkm, em⟩, ⟨ki, hki, ei⟩⟩) kk (show kk < 12 by omega)) (cwV 1 C.1.2.2.2.2 (gV qw_1250 qw_1251 qw_1252 qw_72 qw_1253) rfl rfl rfl (by decide +kernel) ⟨Nat.le_of_ble_eq_true rfl, Nat.le_of_ble_eq_true rfl⟩) (g_rPlant C hW hS h0_11 [.int (nI kk)]) rfl rfl hl.1 rfl (lv_room (Nat.le_of_ble_eq_true rfl)) dX7_ingotByMass_18 ⟨by decide, by decide⟩) hS (fun r_4 Y_5 H_6 locs_7 hW_8 hS_9 h_3 => ?_)
      obtain ⟨h_3, hy_10⟩ := h_3
      replace hy_10 := hy_10.symm
      subst hy_10
      subst h_3
      refine lv_iload_n hx hb dX7_ingotByMass_21 rfl (lv_at hl 2 rfl) ?_
      refine lv_icmp_ne (tgt := 27) hx hb dX7_ingotByMass_22 (by decide) (fun b_11 => ?_) (fun b_11 => ?_)
      · refine lv_iinc (v := nI (kk + 1)) (lv' := [(2, .int (nI (kk + 1))), (0, .ref (ad G 715)), (1, .int x)]) hx hb dX7_ingotByMass_27 hl (k := 0) rfl (nI_1 kk) (by decide) rfl (fun ls_12 hl_13 => ?_)
        refine lv_goto (tgt := 2) hx hb dX7_ingotByMass_30 (by decide) ?_
        exact ih (kk + 1) H_6 locs_7 ls_12 (by omega) (by rw [← hf, ibmL, if_neg b_11]) hW_8 hS_9 (lv_sub hl_13 [0, 1, 2] rfl)
      · refine lv_iload_n hx hb dX7_ingotByMass_25 rfl (lv_at hl 0 rfl) ?_
        refine W.widen (k := 1) (n := 6) (by decide) (by decide) ?_
        refine vx_ret ?_
        exact g_iret C hr hlk hW_8 hS_9 dX7_ingotByMass_26 ⟨by rw [← hf, ibmL, if_pos b_11]; exact ⟨rfl, rfl⟩, rfl⟩
  exact loop ki 0 s.heap [] ls_1 (by omega) (by rw [oF_ingotByMass, ei, clf (show ki < 2 ^ 31 by omega)]) hW hS (lv_sub hl_2 [0, 1, 2] rfl)

set_option maxHeartbeats 4000000 in
set_option maxRecDepth 100000 in
theorem cX7_isConsistent_ok (l : Launch) (G : GT) (X : St) (hi : PInv (X.1 0)) : MetI l G yX7_isConsistent (wsG yX7_isConsistent cX7_isConsistent 2 (some .boolean)) (rmz 4 86) [.ref (ad G 715)] X (fun res Y => res = oF_isConsistent (X.1 0) ∧ Y = X) := by
  refine g_met (cc := cX7_isConsistent) (maxL := 2) (ret := (some .boolean)) (by decide) rfl (Nat.le_of_ble_eq_true rfl) ?_
  intro p e s m below meth c ls C hr hlk hnm hW hl
  have hx := C.1.1
  have hb := C.1.2.1
  have hS : va_S (Ab G) s.heap s.heap [] := va_S.rf
  have hl : lv_has ls 2 [(0, .ref (ad G 715))] := hl
  refine lv_iconst (v := 0) hx hb dX7_isConsistent_0 (by decide) ?_
  refine lv_istore_n (lv' := [(1, .int 0), (0, .ref (ad G 715))]) hx hb dX7_isConsistent_1 rfl hl (by decide) rfl (fun ls_1 hl_2 => ?_)
  refine lv_iload_n hx hb dX7_isConsistent_2 rfl (lv_at hl_2 0 rfl) ?_
  refine lv_iconst (v := 3) hx hb dX7_isConsistent_3 (by decide) ?_
  refine lv_icmp_ge (tgt := 26) hx hb dX7_isConsistent_4 (by decide) (fun h9 => absurd h9 (by decide)) (fun _ => ?_)
  refine lv_aload_n hx hb dX7_isConsistent_7 rfl (lv_at hl_2 1 rfl) ?_
  refine gF_plant C hW (hwc hwX7) (mc qw_287) dX7_isConsistent_8 ?_
  refine lv_iload_n hx hb dX7_isConsistent_11 rfl (lv_at hl_2 0 rfl) ?_
  refine g_calli (va_runV (As := [.int 0]) (rest := []) C.1 (cX4_furnaceAgrees_ok l G X 0 h0_11 0 (by decide)) (cwV 1 C.1.2.2.2.2 (gV qw_333 qw_334 qw_335 qw_72 qw_336) rfl rfl rfl (by decide +kernel) ⟨Nat.le_of_ble_eq_true rfl, Nat.le_of_ble_eq_true rfl⟩) (g_rPlant C hW hS h0_11 [.int 0]) rfl rfl hl_2.1 rfl (lv_room (Nat.le_of_ble_eq_true rfl)) dX7_isConsistent_12 ⟨Nat.zero_le _, Nat.zero_le _⟩) hS (fun r_4 Y_5 H_6 locs_7 hW_8 hS_9 h_3 => ?_)
  obtain ⟨h_3, hy_10⟩ := h_3
  replace hy_10 := hy_10.symm
  subst hy_10
  subst h_3
  refine lv_if_ne (tgt := 20) hx hb dX7_isConsistent_15 (by decide) (fun b_11 => ?_) (fun b_11 => ?_)
  · refine lv_iinc (v := 1) (lv' := [(1, .int 1), (0, .ref (ad G 715))]) hx hb dX7_isConsistent_20 hl_2 (k := 0) rfl (by decide) (by decide) rfl (fun ls_12 hl_13 => ?_)
    refine lv_goto (tgt := 2) hx hb dX7_isConsistent_23 (by decide) ?_
    refine lv_iload_n hx hb dX7_isConsistent_2 rfl (lv_at hl_13 0 rfl) ?_
    refine lv_iconst (v := 3) hx hb dX7_isConsistent_3 (by decide) ?_
    refine lv_icmp_ge (tgt := 26) hx hb dX7_isConsistent_4 (by decide) (fun h9 => absurd h9 (by decide)) (fun _ => ?_)
    refine lv_aload_n hx hb dX7_isConsistent_7 rfl (lv_at hl_13 1 rfl) ?_
    refine gF_plant C hW_8 (hwc hwX7) (mc qw_287) dX7_isConsistent_8 ?_
    refine lv_iload_n hx hb dX7_isConsistent_11 rfl (lv_at hl_13 0 rfl) ?_
    refine g_calli (va_runV (As := [.int 1]) (rest := []) C.1 (cX4_furnaceAgrees_ok l G X 0 h0_11 1 (by decide)) (cwV 1 C.1.2.2.2.2 (gV qw_333 qw_334 qw_335 qw_72 qw_336) rfl rfl rfl (by decide +kernel) ⟨Nat.le_of_ble_eq_true rfl, Nat.le_of_ble_eq_true rfl⟩) (g_rPlant C hW_8 hS_9 h0_11 [.int 1]) rfl rfl hl_13.1 rfl (lv_room (Nat.le_of_ble_eq_true rfl)) dX7_isConsistent_12 ⟨Nat.zero_le _, Nat.zero_le _⟩) hS_9 (fun r_15 Y_16 H_17 locs_18 hW_19 hS_20 h_14 => ?_)
    obtain ⟨h_14, hy_21⟩ := h_14
    replace hy_21 := hy_21.symm
    subst hy_21
    subst h_14
    refine lv_if_ne (tgt := 20) hx hb dX7_isConsistent_15 (by decide) (fun b_22 => ?_) (fun b_22 => ?_)
    · refine lv_iinc (v := 2) (lv' := [(1, .int 2), (0, .ref (ad G 715))]) hx hb dX7_isConsistent_20 hl_13 (k := 0) rfl (by decide) (by decide) rfl (fun ls_23 hl_24 => ?_)
      refine lv_goto (tgt := 2) hx hb dX7_isConsistent_23 (by decide) ?_
      refine lv_iload_n hx hb dX7_isConsistent_2 rfl (lv_at hl_24 0 rfl) ?_
      refine lv_iconst (v := 3) hx hb dX7_isConsistent_3 (by decide) ?_
      refine lv_icmp_ge (tgt := 26) hx hb dX7_isConsistent_4 (by decide) (fun h9 => absurd h9 (by decide)) (fun _ => ?_)
      refine lv_aload_n hx hb dX7_isConsistent_7 rfl (lv_at hl_24 1 rfl) ?_
      refine gF_plant C hW_19 (hwc hwX7) (mc qw_287) dX7_isConsistent_8 ?_
      refine lv_iload_n hx hb dX7_isConsistent_11 rfl (lv_at hl_24 0 rfl) ?_
      refine g_calli (va_runV (As := [.int 2]) (rest := []) C.1 (cX4_furnaceAgrees_ok l G X 0 h0_11 2 (by decide)) (cwV 1 C.1.2.2.2.2 (gV qw_333 qw_334 qw_335 qw_72 qw_336) rfl rfl rfl (by decide +kernel) ⟨Nat.le_of_ble_eq_true rfl, Nat.le_of_ble_eq_true rfl⟩) (g_rPlant C hW_19 hS_20 h0_11 [.int 2]) rfl rfl hl_24.1 rfl (lv_room (Nat.le_of_ble_eq_true rfl)) dX7_isConsistent_12 ⟨Nat.zero_le _, Nat.zero_le _⟩) hS_20 (fun r_26 Y_27 H_28 locs_29 hW_30 hS_31 h_25 => ?_)
      obtain ⟨h_25, hy_32⟩ := h_25
      replace hy_32 := hy_32.symm
      subst hy_32
      subst h_25
      refine lv_if_ne (tgt := 20) hx hb dX7_isConsistent_15 (by decide) (fun b_33 => ?_) (fun b_33 => ?_)
      · refine lv_iinc (v := 3) (lv' := [(1, .int 3), (0, .ref (ad G 715))]) hx hb dX7_isConsistent_20 hl_24 (k := 0) rfl (by decide) (by decide) rfl (fun ls_34 hl_35 => ?_)
        refine lv_goto (tgt := 2) hx hb dX7_isConsistent_23 (by decide) ?_
        refine lv_iload_n hx hb dX7_isConsistent_2 rfl (lv_at hl_35 0 rfl) ?_
        refine lv_iconst (v := 3) hx hb dX7_isConsistent_3 (by decide) ?_
        refine lv_icmp_ge (tgt := 26) hx hb dX7_isConsistent_4 (by decide) (fun _ => ?_) (fun h9 => absurd h9 (by decide))
        refine lv_iconst (v := 0) hx hb dX7_isConsistent_26 (by decide) ?_
        refine lv_istore_n (lv' := [(1, .int 0), (0, .ref (ad G 715))]) hx hb dX7_isConsistent_27 rfl hl_35 (by decide) rfl (fun ls_36 hl_37 => ?_)
        refine lv_iload_n hx hb dX7_isConsistent_28 rfl (lv_at hl_37 0 rfl) ?_
        refine lv_iconst (v := 4) hx hb dX7_isConsistent_29 (by decide) ?_
        refine lv_icmp_ge (tgt := 60) hx hb dX7_isConsistent_30 (by decide) (fun h9 => absurd h9 (by decide)) (fun _ => ?_)
        refine lv_aload_n hx hb dX7_isConsistent_33 rfl (lv_at hl_37 1 rfl) ?_
        refine gF_plant C hW_30 (hwc hwX7) (mc qw_287) dX7_isConsistent_34 ?_
        refine lv_iload_n hx hb dX7_isConsistent_37 rfl (lv_at hl_37 0 rfl) ?_
        refine g_calli (va_runV (As := [.int 0]) (rest := []) C.1 (cX4_stockInPlaces_ok l G X 0 h0_11 hi 0 (by decide)) (cwV 1 C.1.2.2.2.2 (gV qw_377 qw_378 qw_379 qw_72 qw_380) rfl rfl rfl (by decide +kernel) ⟨Nat.le_of_ble_eq_true rfl, Nat.le_of_ble_eq_true rfl⟩) (g_rPlant C hW_30 hS_31 h0_11 [.int 0]) rfl rfl hl_37.1 rfl (lv_room (Nat.le_of_ble_eq_true rfl)) dX7_isConsistent_38 ⟨Nat.zero_le _, Nat.zero_le _⟩) hS_31 (fun r_39 Y_40 H_41 locs_42 hW_43 hS_44 h_38 => ?_)
        obtain ⟨h_38, hy_45⟩ := h_38
        replace hy_45 := hy_45.symm
        subst hy_45
        subst h_38
        refine lv_aload_n hx hb dX7_isConsistent_41 rfl (lv_at hl_37 1 rfl) ?_
        refine gF_plant C hW_43 (hwc hwX7) (mc qw_287) dX7_isConsistent_42 ?_
        refine lv_iload_n hx hb dX7_isConsistent_45 rfl (lv_at hl_37 0 rfl) ?_
        refine g_calli (va_runV (As := [.int 0]) (rest := [.int (stkW (X.1 0) 0)]) C.1 (cX4_stockInAccounts_ok l G X 0 h0_11 0 (by decide)) (cwV 1 C.1.2.2.2.2 (gV qw_381 qw_382 qw_383 qw_72 qw_384) rfl rfl rfl (by decide +kernel) ⟨Nat.le_of_ble_eq_true rfl, Nat.le_of_ble_eq_true rfl⟩) (g_rPlant C hW_43 hS_44 h0_11 [.int 0]) rfl rfl hl_37.1 rfl (lv_room (Nat.le_of_ble_eq_true rfl)) dX7_isConsistent_46 ⟨Nat.zero_le _, Nat.zero_le _⟩) hS_44 (fun r_47 Y_48 H_49 locs_50 hW_51 hS_52 h_46 => ?_)
        obtain ⟨h_46, hy_53⟩ := h_46
        replace hy_53 := hy_53.symm
        subst hy_53
        subst h_46
        refine lv_icmp_eq (tgt := 54) hx hb dX7_isConsistent_49 (by decide) (fun b_54 => ?_) (fun b_54 => ?_)
        · refine lv_iinc (v := 1) (lv' := [(1, .int 1), (0, .ref (ad G 715))]) hx hb dX7_isConsistent_54 hl_37 (k := 0) rfl (by decide) (by decide) rfl (fun ls_55 hl_56 => ?_)
          refine lv_goto (tgt := 28) hx hb dX7_isConsistent_57 (by decide) ?_
          refine lv_iload_n hx hb dX7_isConsistent_28 rfl (lv_at hl_56 0 rfl) ?_
          refine lv_iconst (v := 4) hx hb dX7_isConsistent_29 (by decide) ?_
          refine lv_icmp_ge (tgt := 60) hx hb dX7_isConsistent_30 (by decide) (fun h9 => absurd h9 (by decide)) (fun _ => ?_)
          refine lv_aload_n hx hb dX7_isConsistent_33 rfl (lv_at hl_56 1 rfl) ?_
          refine gF_plant C hW_51 (hwc hwX7) (mc qw_287) dX7_isConsistent_34 ?_
          refine lv_iload_n hx hb dX7_isConsistent_37 rfl (lv_at hl_56 0 rfl) ?_
          refine g_calli (va_runV (As := [.int 1]) (rest := []) C.1 (cX4_stockInPlaces_ok l G X 0 h0_11 hi 1 (by decide)) (cwV 1 C.1.2.2.2.2 (gV qw_377 qw_378 qw_379 qw_72 qw_380) rfl rfl rfl (by decide +kernel) ⟨Nat.le_of_ble_eq_true rfl, Nat.le_of_ble_eq_true rfl⟩) (g_rPlant C hW_51 hS_52 h0_11 [.int 1]) rfl rfl hl_56.1 rfl (lv_room (Nat.le_of_ble_eq_true rfl)) dX7_isConsistent_38 ⟨Nat.zero_le _, Nat.zero_le _⟩) hS_52 (fun r_58 Y_59 H_60 locs_61 hW_62 hS_63 h_57 => ?_)
          obtain ⟨h_57, hy_64⟩ := h_57
          replace hy_64 := hy_64.symm
          subst hy_64
          subst h_57
          refine lv_aload_n hx hb dX7_isConsistent_41 rfl (lv_at hl_56 1 rfl) ?_
          refine gF_plant C hW_62 (hwc hwX7) (mc qw_287) dX7_isConsistent_42 ?_
          refine lv_iload_n hx hb dX7_isConsistent_45 rfl (lv_at hl_56 0 rfl) ?_
          refine g_calli (va_runV (As := [.int 1]) (rest := [.int (stkW (X.1 0) 1)]) C.1 (cX4_stockInAccounts_ok l G X 0 h0_11 1 (by decide)) (cwV 1 C.1.2.2.2.2 (gV qw_381 qw_382 qw_383 qw_72 qw_384) rfl rfl rfl (by decide +kernel) ⟨Nat.le_of_ble_eq_true rfl, Nat.le_of_ble_eq_true rfl⟩) (g_rPlant C hW_62 hS_63 h0_11 [.int 1]) rfl rfl hl_56.1 rfl (lv_room (Nat.le_of_ble_eq_true rfl)) dX7_isConsistent_46 ⟨Nat.zero_le _, Nat.zero_le _⟩) hS_63 (fun r_66 Y_67 H_68 locs_69 hW_70 hS_71 h_65 => ?_)
          obtain ⟨h_65, hy_72⟩ := h_65
          replace hy_72 := hy_72.symm
          subst hy_72
          subst h_65
          refine lv_icmp_eq (tgt := 54) hx hb dX7_isConsistent_49 (by decide) (fun b_73 => ?_) (fun b_73 => ?_)
          · refine lv_iinc (v := 2) (lv' := [(1, .int 2), (0, .ref (ad G 715))]) hx hb dX7_isConsistent_54 hl_56 (k := 0) rfl (by decide) (by decide) rfl (fun ls_74 hl_75 => ?_)
            refine lv_goto (tgt := 28) hx hb dX7_isConsistent_57 (by decide) ?_
            refine lv_iload_n hx hb dX7_isConsistent_28 rfl (lv_at hl_75 0 rfl) ?_
            refine lv_iconst (v := 4) hx hb dX7_isConsistent_29 (by decide) ?_
            refine lv_icmp_ge (tgt := 60) hx hb dX7_isConsistent_30 (by decide) (fun h9 => absurd h9 (by decide)) (fun _ => ?_)
            refine lv_aload_n hx hb dX7_isConsistent_33 rfl (lv_at hl_75 1 rfl) ?_
            refine gF_plant C hW_70 (hwc hwX7) (mc qw_287) dX7_isConsistent_34 ?_
            refine lv_iload_n hx hb dX7_isConsistent_37 rfl (lv_at hl_75 0 rfl) ?_
            refine g_calli (va_runV (As := [.int 2]) (rest := []) C.1 (cX4_stockInPlaces_ok l G X 0 h0_11 hi 2 (by decide)) (cwV 1 C.1.2.2.2.2 (gV qw_377 qw_378 qw_379 qw_72 qw_380) rfl rfl rfl (by decide +kernel) ⟨Nat.le_of_ble_eq_true rfl, Nat.le_of_ble_eq_true rfl⟩) (g_rPlant C hW_70 hS_71 h0_11 [.int 2]) rfl rfl hl_75.1 rfl (lv_room (Nat.le_of_ble_eq_true rfl)) dX7_isConsistent_38 ⟨Nat.zero_le _, Nat.zero_le _⟩) hS_71 (fun r_77 Y_78 H_79 locs_80 hW_81 hS_82 h_76 => ?_)
            obtain ⟨h_76, hy_83⟩ := h_76
            replace hy_83 := hy_83.symm
            subst hy_83
            subst h_76
            refine lv_aload_n hx hb dX7_isConsistent_41 rfl (lv_at hl_75 1 rfl) ?_
            refine gF_plant C hW_81 (hwc hwX7) (mc qw_287) dX7_isConsistent_42 ?_
            refine lv_iload_n hx hb dX7_isConsistent_45 rfl (lv_at hl_75 0 rfl) ?_
            refine g_calli (va_runV (As := [.int 2]) (rest := [.int (stkW (X.1 0) 2)]) C.1 (cX4_stockInAccounts_ok l G X 0 h0_11 2 (by decide)) (cwV 1 C.1.2.2.2.2 (gV qw_381 qw_382 qw_383 qw_72 qw_384) rfl rfl rfl (by decide +kernel) ⟨Nat.le_of_ble_eq_true rfl, Nat.le_of_ble_eq_true rfl⟩) (g_rPlant C hW_81 hS_82 h0_11 [.int 2]) rfl rfl hl_75.1 rfl (lv_room (Nat.le_of_ble_eq_true rfl)) dX7_isConsistent_46 ⟨Nat.zero_le _, Nat.zero_le _⟩) hS_82 (fun r_85 Y_86 H_87 locs_88 hW_89 hS_90 h_84 => ?_)
            obtain ⟨h_84, hy_91⟩ := h_84
            replace hy_91 := hy_91.symm
            subst hy_91
            subst h_84
            refine lv_icmp_eq (tgt := 54) hx hb dX7_isConsistent_49 (by decide) (fun b_92 => ?_) (fun b_92 => ?_)
            · refine lv_iinc (v := 3) (lv' := [(1, .int 3), (0, .ref (ad G 715))]) hx hb dX7_isConsistent_54 hl_75 (k := 0) rfl (by decide) (by decide) rfl (fun ls_93 hl_94 => ?_)
              refine lv_goto (tgt := 28) hx hb dX7_isConsistent_57 (by decide) ?_
              refine lv_iload_n hx hb dX7_isConsistent_28 rfl (lv_at hl_94 0 rfl) ?_
              refine lv_iconst (v := 4) hx hb dX7_isConsistent_29 (by decide) ?_
              refine lv_icmp_ge (tgt := 60) hx hb dX7_isConsistent_30 (by decide) (fun h9 => absurd h9 (by decide)) (fun _ => ?_)
              refine lv_aload_n hx hb dX7_isConsistent_33 rfl (lv_at hl_94 1 rfl) ?_
              refine gF_plant C hW_89 (hwc hwX7) (mc qw_287) dX7_isConsistent_34 ?_
              refine lv_iload_n hx hb dX7_isConsistent_37 rfl (lv_at hl_94 0 rfl) ?_
              refine g_calli (va_runV (As := [.int 3]) (rest := []) C.1 (cX4_stockInPlaces_ok l G X 0 h0_11 hi 3 (by decide)) (cwV 1 C.1.2.2.2.2 (gV qw_377 qw_378 qw_379 qw_72 qw_380) rfl rfl rfl (by decide +kernel) ⟨Nat.le_of_ble_eq_true rfl, Nat.le_of_ble_eq_true rfl⟩) (g_rPlant C hW_89 hS_90 h0_11 [.int 3]) rfl rfl hl_94.1 rfl (lv_room (Nat.le_of_ble_eq_true rfl)) dX7_isConsistent_38 ⟨Nat.zero_le _, Nat.zero_le _⟩) hS_90 (fun r_96 Y_97 H_98 locs_99 hW_100 hS_101 h_95 => ?_)
              obtain ⟨h_95, hy_102⟩ := h_95
              replace hy_102 := hy_102.symm
              subst hy_102
              subst h_95
              refine lv_aload_n hx hb dX7_isConsistent_41 rfl (lv_at hl_94 1 rfl) ?_
              refine gF_plant C hW_100 (hwc hwX7) (mc qw_287) dX7_isConsistent_42 ?_
              refine lv_iload_n hx hb dX7_isConsistent_45 rfl (lv_at hl_94 0 rfl) ?_
              refine g_calli (va_runV (As := [.int 3]) (rest := [.int (stkW (X.1 0) 3)]) C.1 (cX4_stockInAccounts_ok l G X 0 h0_11 3 (by decide)) (cwV 1 C.1.2.2.2.2 (gV qw_381 qw_382 qw_383 qw_72 qw_384) rfl rfl rfl (by decide +kernel) ⟨Nat.le_of_ble_eq_true rfl, Nat.le_of_ble_eq_true rfl⟩) (g_rPlant C hW_100 hS_101 h0_11 [.int 3]) rfl rfl hl_94.1 rfl (lv_room (Nat.le_of_ble_eq_true rfl)) dX7_isConsistent_46 ⟨Nat.zero_le _, Nat.zero_le _⟩) hS_101 (fun r_104 Y_105 H_106 locs_107 hW_108 hS_109 h_103 => ?_)
              obtain ⟨h_103, hy_110⟩ := h_103
              replace hy_110 := hy_110.symm
              subst hy_110
              subst h_103
              refine lv_icmp_eq (tgt := 54) hx hb dX7_isConsistent_49 (by decide) (fun b_111 => ?_) (fun b_111 => ?_)
              · refine lv_iinc (v := 4) (lv' := [(1, .int 4), (0, .ref (ad G 715))]) hx hb dX7_isConsistent_54 hl_94 (k := 0) rfl (by decide) (by decide) rfl (fun ls_112 hl_113 => ?_)
                refine lv_goto (tgt := 28) hx hb dX7_isConsistent_57 (by decide) ?_
                refine lv_iload_n hx hb dX7_isConsistent_28 rfl (lv_at hl_113 0 rfl) ?_
                refine lv_iconst (v := 4) hx hb dX7_isConsistent_29 (by decide) ?_
                refine lv_icmp_ge (tgt := 60) hx hb dX7_isConsistent_30 (by decide) (fun _ => ?_) (fun h9 => absurd h9 (by decide))
                refine lv_iconst (v := 1) hx hb dX7_isConsistent_60 (by decide) ?_
                exact g_zret C hr hlk hW_108 hS_109 dX7_isConsistent_61 rfl (by exact ⟨by simp only [oF_isConsistent, b_11, b_22, b_33, b_54, b_73, b_92, b_111, if_true, if_false], rfl⟩)
              · refine lv_iconst (v := 0) hx hb dX7_isConsistent_52 (by decide) ?_
                exact g_zret C hr hlk hW_108 hS_109 dX7_isConsistent_53 rfl (by exact ⟨by simp only [oF_isConsistent, b_11, b_22, b_33, b_54, b_73, b_92, b_111, if_true, if_false], rfl⟩)
            · refine lv_iconst (v := 0) hx hb dX7_isConsistent_52 (by decide) ?_
              exact g_zret C hr hlk hW_89 hS_90 dX7_isConsistent_53 rfl (by exact ⟨by simp only [oF_isConsistent, b_11, b_22, b_33, b_54, b_73, b_92, if_true, if_false], rfl⟩)
          · refine lv_iconst (v := 0) hx hb dX7_isConsistent_52 (by decide) ?_
            exact g_zret C hr hlk hW_70 hS_71 dX7_isConsistent_53 rfl (by exact ⟨by simp only [oF_isConsistent, b_11, b_22, b_33, b_54, b_73, if_true, if_false], rfl⟩)
        · refine lv_iconst (v := 0) hx hb dX7_isConsistent_52 (by decide) ?_
          exact g_zret C hr hlk hW_51 hS_52 dX7_isConsistent_53 rfl (by exact ⟨by simp only [oF_isConsistent, b_11, b_22, b_33, b_54, if_true, if_false], rfl⟩)
      · refine lv_iconst (v := 0) hx hb dX7_isConsistent_18 (by decide) ?_
        exact g_zret C hr hlk hW_30 hS_31 dX7_isConsistent_19 rfl (by exact ⟨by simp only [oF_isConsistent, b_11, b_22, b_33, if_true, if_false], rfl⟩)
    · refine lv_iconst (v := 0) hx hb dX7_isConsistent_18 (by decide) ?_
      exact g_zret C hr hlk hW_19 hS_20 dX7_isConsistent_19 rfl (by exact ⟨by simp only [oF_isConsistent, b_11, b_22, if_true, if_false], rfl⟩)
  · refine lv_iconst (v := 0) hx hb dX7_isConsistent_18 (by decide) ?_
    exact g_zret C hr hlk hW_8 hS_9 dX7_isConsistent_19 rfl (by exact ⟨by simp only [oF_isConsistent, b_11, if_true, if_false], rfl⟩)

set_option maxHeartbeats 4000000 in
set_option maxRecDepth 100000 in
theorem cX7_errorPosition_ok (l : Launch) (G : GT) (hst : l.stackTraces = false) (X : St) : MetXI l G 1 yX7_errorPosition (wsG yX7_errorPosition cX7_errorPosition 1 (some .int)) (rmk 1 6 100) [.ref (ad G 715)] X (fun res Y => (¬ X.1 11 1 = -1 ∧ res = X.1 11 1) ∧ Y = X) (fun E Y => (E = "java/util/NoSuchElementException" ∧ X.1 11 1 = -1) ∧ Y = X) := by
  refine g_metX (cc := cX7_errorPosition) (maxL := 1) (ret := (some .int)) (by decide) rfl (Nat.le_of_ble_eq_true rfl) ?_
  intro p e s m below meth c ls C hr hlk hex hW hl
  have hx := C.1.1
  have hb := C.1.2.1
  have hS : va_S (Ab G) s.heap s.heap [] := va_S.rf
  have hl : lv_has ls 1 [(0, .ref (ad G 715))] := hl
  refine lv_aload_n hx hb dX7_errorPosition_0 rfl (lv_at hl 0 rfl) ?_
  refine gF_lastErrorPosition C hW (hwc hwX7) (mc qw_292) dX7_errorPosition_1 ?_
  refine lv_iconst (v := (-1)) hx hb dX7_errorPosition_4 (by decide) ?_
  refine lv_icmp_ne (tgt := 16) hx hb dX7_errorPosition_5 (by decide) (fun b_1 => ?_) (fun b_1 => ?_)
  · refine lv_aload_n hx hb dX7_errorPosition_16 rfl (lv_at hl 0 rfl) ?_
    refine gF_lastErrorPosition C hW (hwc hwX7) (mc qw_292) dX7_errorPosition_17 ?_
    refine W.widen (k := 1) (n := 6) (by decide) (by decide) ?_
    refine vx_ret ?_
    exact g_iret C hr hlk hW hS dX7_errorPosition_20 ⟨⟨b_1, rfl⟩, rfl⟩
  · exact g_thr0 C hst (ik := 108) (ic := 110) (names := ["java/lang/RuntimeException", "java/lang/Exception"]) hex hlk hl.1 (by decide) (by decide) (mc qk_NSEE) (mc qi_NSEE) (fun w hw => mc (qg_NSEE w hw)) qn_NSEE nest_on qo_NSEE dX7_errorPosition_8 dX7_errorPosition_11 dX7_errorPosition_12 dX7_errorPosition_15 (Nat.le_of_ble_eq_true rfl) (Nat.le_of_ble_eq_true rfl) (by decide) (by decide) (by decide) (by decide) hW hS ⟨⟨rfl, b_1⟩, rfl⟩

set_option maxHeartbeats 4000000 in
set_option maxRecDepth 100000 in
theorem cX7_failedCommand_ok (l : Launch) (G : GT) (hst : l.stackTraces = false) (X : St) : MetXI l G 1 yX7_failedCommand (wsG yX7_failedCommand cX7_failedCommand 1 (some .int)) (rmk 1 6 100) [.ref (ad G 715)] X (fun res Y => (¬ X.1 11 2 = -1 ∧ res = X.1 11 2) ∧ Y = X) (fun E Y => (E = "java/util/NoSuchElementException" ∧ X.1 11 2 = -1) ∧ Y = X) := by
  refine g_metX (cc := cX7_failedCommand) (maxL := 1) (ret := (some .int)) (by decide) rfl (Nat.le_of_ble_eq_true rfl) ?_
  intro p e s m below meth c ls C hr hlk hex hW hl
  have hx := C.1.1
  have hb := C.1.2.1
  have hS : va_S (Ab G) s.heap s.heap [] := va_S.rf
  have hl : lv_has ls 1 [(0, .ref (ad G 715))] := hl
  refine lv_aload_n hx hb dX7_failedCommand_0 rfl (lv_at hl 0 rfl) ?_
  refine gF_lastFailedCommand C hW (hwc hwX7) (mc qw_293) dX7_failedCommand_1 ?_
  refine lv_iconst (v := (-1)) hx hb dX7_failedCommand_4 (by decide) ?_
  refine lv_icmp_ne (tgt := 16) hx hb dX7_failedCommand_5 (by decide) (fun b_1 => ?_) (fun b_1 => ?_)
  · refine lv_aload_n hx hb dX7_failedCommand_16 rfl (lv_at hl 0 rfl) ?_
    refine gF_lastFailedCommand C hW (hwc hwX7) (mc qw_293) dX7_failedCommand_17 ?_
    refine W.widen (k := 1) (n := 6) (by decide) (by decide) ?_
    refine vx_ret ?_
    exact g_iret C hr hlk hW hS dX7_failedCommand_20 ⟨⟨b_1, rfl⟩, rfl⟩
  · exact g_thr0 C hst (ik := 108) (ic := 110) (names := ["java/lang/RuntimeException", "java/lang/Exception"]) hex hlk hl.1 (by decide) (by decide) (mc qk_NSEE) (mc qi_NSEE) (fun w hw => mc (qg_NSEE w hw)) qn_NSEE nest_on qo_NSEE dX7_failedCommand_8 dX7_failedCommand_11 dX7_failedCommand_12 dX7_failedCommand_15 (Nat.le_of_ble_eq_true rfl) (Nat.le_of_ble_eq_true rfl) (by decide) (by decide) (by decide) (by decide) hW hS ⟨⟨rfl, b_1⟩, rfl⟩

set_option maxHeartbeats 4000000 in
set_option maxRecDepth 100000 in
theorem cX7_undo_ok (l : Launch) (G : GT) (hst : l.stackTraces = false) (X : St) (sp : Nat) (hsp : sp < 9) (es : X.1 11 3 = nI sp) (cn : Nat) (hcn : cn ≤ 8) (ec : X.1 11 4 = nI cn) (hc0 : 0 < cn) : MetXI l G 0 yX7_undo (wsG yX7_undo cX7_undo 1 (some .int)) (rmk 0 6 306) [.ref (ad G 715)] X (fun res Y => res = nI (cn - 1) ∧ Y = setRow (setRow X 11 (upd (upd (X.1 11) (3) (nI ((sp + 9 - 1) % 9))) (4) (nI (cn - 1)))) 0 (cpPlantR (X.1 0) (X.1 ((sp + 9 - 1) % 9 + 1)))) (fun _ _ => False) := by
  refine g_metX (cc := cX7_undo) (maxL := 1) (ret := (some .int)) (by decide) rfl (Nat.le_of_ble_eq_true rfl) ?_
  intro p e s m below meth c ls C hr hlk hex hW hl
  have hx := C.1.1
  have hb := C.1.2.1
  have hS : va_S (Ab G) s.heap s.heap [] := va_S.rf
  have hl : lv_has ls 1 [(0, .ref (ad G 715))] := hl
  refine lv_aload_n hx hb dX7_undo_0 rfl (lv_at hl 0 rfl) ?_
  refine gF_history C hW (hwc hwX7) (mc qw_288) dX7_undo_1 ?_
  refine lv_aload_n hx hb dX7_undo_4 rfl (lv_at hl 0 rfl) ?_
  refine gF_plant C hW (hwc hwX7) (mc qw_287) dX7_undo_5 ?_
  refine g_calli (va_runV (As := [.ref (ad G 0)]) (rest := []) C.1 (cX2_stepBack_ok l G X sp hsp es cn hcn ec hc0) (cwV 1 C.1.2.2.2.2 (gV qw_1448 qw_1449 qw_1450 qw_75 qw_1451) rfl rfl rfl (by decide +kernel) ⟨Nat.le_of_ble_eq_true rfl, Nat.le_of_ble_eq_true rfl⟩) (g_rHist C hW hS [.ref (ad G 0)]) rfl rfl hl.1 rfl (lv_room (Nat.le_of_ble_eq_true rfl)) dX7_undo_8 ⟨by decide, by decide⟩) hS (fun r_2 Y_3 H_4 locs_5 hW_6 hS_7 h_1 => ?_)
  obtain ⟨h_8, h_1⟩ := h_1
  subst h_8
  have hW_9 : Wd G (setRow (setRow X 11 (upd (upd (X.1 11) (3) (nI ((sp + 9 - 1) % 9))) (4) (nI (cn - 1)))) 0 (cpPlantR (X.1 0) (X.1 ((sp + 9 - 1) % 9 + 1)))) H_4 := Wd.cast h_1 hW_6
  refine lv_if_ne (tgt := 22) hx hb dX7_undo_11 (by decide) (fun _ => ?_) (fun h9 => absurd h9 (by decide))
  refine lv_aload_n hx hb dX7_undo_22 rfl (lv_at hl 0 rfl) ?_
  refine gF_history C hW_9 (hwc hwX7) (mc qw_288) dX7_undo_23 ?_
  refine gHi_countN C hW_9 (hwc hwX2) nw_18 dX7_undo_26 ?_
  refine g_top (y := upd (upd (X.1 11) (3) (nI ((sp + 9 - 1) % 9))) (4) (nI (cn - 1)) (4)) (congrFun (rd_in (by decide) rd_out) _) ?_
  refine g_top (y := nI (cn - 1)) pk_us ?_
  refine W.widen (k := 0) (n := 0) (by decide) (by decide) ?_
  refine vx_ret ?_
  exact g_iret C hr hlk hW_9 hS_7 dX7_undo_29 (by exact ⟨rfl, rfl⟩)

set_option maxHeartbeats 4000000 in
set_option maxRecDepth 100000 in
theorem cX7_undo0_ok (l : Launch) (G : GT) (hst : l.stackTraces = false) (X : St) (sp : Nat) (hsp : sp < 9) (es : X.1 11 3 = nI sp) (ec : X.1 11 4 = nI 0) : MetXI l G 1 yX7_undo (wsG yX7_undo cX7_undo 1 (some .int)) (rmk 1 6 306) [.ref (ad G 715)] X (fun _ _ => False) (fun E Y => E = "java/util/NoSuchElementException" ∧ Y = X) := by
  refine g_metX (cc := cX7_undo) (maxL := 1) (ret := (some .int)) (by decide) rfl (Nat.le_of_ble_eq_true rfl) ?_
  intro p e s m below meth c ls C hr hlk hex hW hl
  have hx := C.1.1
  have hb := C.1.2.1
  have hS : va_S (Ab G) s.heap s.heap [] := va_S.rf
  have hl : lv_has ls 1 [(0, .ref (ad G 715))] := hl
  refine lv_aload_n hx hb dX7_undo_0 rfl (lv_at hl 0 rfl) ?_
  refine gF_history C hW (hwc hwX7) (mc qw_288) dX7_undo_1 ?_
  refine lv_aload_n hx hb dX7_undo_4 rfl (lv_at hl 0 rfl) ?_
  refine gF_plant C hW (hwc hwX7) (mc qw_287) dX7_undo_5 ?_
  refine g_calli (va_runV (As := [.ref (ad G 0)]) (rest := []) C.1 (cX2_stepBack0_ok l G X ec) (cwV 1 C.1.2.2.2.2 (gV qw_1448 qw_1449 qw_1450 qw_75 qw_1451) rfl rfl rfl (by decide +kernel) ⟨Nat.le_of_ble_eq_true rfl, Nat.le_of_ble_eq_true rfl⟩) (g_rHist C hW hS [.ref (ad G 0)]) rfl rfl hl.1 rfl (lv_room (Nat.le_of_ble_eq_true rfl)) dX7_undo_8 ⟨by decide, by decide⟩) hS (fun r_2 Y_3 H_4 locs_5 hW_6 hS_7 h_1 => ?_)
  obtain ⟨h_8, h_1⟩ := h_1
  subst h_8
  replace h_1 := h_1.symm
  subst h_1
  refine lv_if_ne (tgt := 22) hx hb dX7_undo_11 (by decide) (fun h9 => absurd h9 (by decide)) (fun _ => ?_)
  exact g_thr0 C hst (ik := 108) (ic := 110) (names := ["java/lang/RuntimeException", "java/lang/Exception"]) hex hlk hl.1 (by decide) (by decide) (mc qk_NSEE) (mc qi_NSEE) (fun w hw => mc (qg_NSEE w hw)) qn_NSEE nest_on qo_NSEE dX7_undo_14 dX7_undo_17 dX7_undo_18 dX7_undo_21 (Nat.le_of_ble_eq_true rfl) (Nat.le_of_ble_eq_true rfl) (by decide) (by decide) (by decide) (by decide) hW_6 hS_7 ⟨rfl, rfl⟩

set_option maxHeartbeats 4000000 in
set_option maxRecDepth 100000 in
theorem cX7_save_ok (l : Launch) (G : GT) (X : St) : MetI l G yX7_save (wsG yX7_save cX7_save 1 (some .int)) (rmz 4 264) [.ref (ad G 715)] X (fun res Y => res = X.1 0 43 ∧ Y = setRow (setRow X 10 (cpPlantR (X.1 10) (X.1 0))) 11 (upd (X.1 11) (0) 1)) := by
  refine g_met (cc := cX7_save) (maxL := 1) (ret := (some .int)) (by decide) rfl (Nat.le_of_ble_eq_true rfl) ?_
  intro p e s m below meth c ls C hr hlk hnm hW hl
  have hx := C.1.1
  have hb := C.1.2.1
  have hS : va_S (Ab G) s.heap s.heap [] := va_S.rf
  have hl : lv_has ls 1 [(0, .ref (ad G 715))] := hl
  refine lv_aload_n hx hb dX7_save_0 rfl (lv_at hl 0 rfl) ?_
  refine gF_snapshot C hW (hwc hwX7) (mc qw_289) dX7_save_1 ?_
  refine lv_aload_n hx hb dX7_save_4 rfl (lv_at hl 0 rfl) ?_
  refine gF_plant C hW (hwc hwX7) (mc qw_287) dX7_save_5 ?_
  refine g_callv (va_runV (As := [.ref (ad G 0)]) (rest := []) C.1 (cX4_copyFrom_ok l G X 10 h10_11 0 h0_11 (by decide)) (cwV 1 C.1.2.2.2.2 (gV qw_772 qw_773 qw_774 qw_72 qw_775) rfl rfl rfl (by decide +kernel) ⟨Nat.le_of_ble_eq_true rfl, Nat.le_of_ble_eq_true rfl⟩) (g_rPlant C hW hS h10_11 [.ref (ad G 0)]) rfl rfl hl.1 rfl (lv_room (Nat.le_of_ble_eq_true rfl)) dX7_save_8 ⟨Nat.zero_le _, Nat.zero_le _⟩) hS (fun Y_2 H_3 locs_4 hW_5 hS_6 h_1 => ?_)
  obtain ⟨w_7, ew_7⟩ : ∃ Z9, Z9 = cpPlantR (X.1 10) (X.1 0) := ⟨_, rfl⟩
  have hW_8 : Wd G (setRow X 10 w_7) H_3 := Wd.cast (by rw [h_1, ew_7]) hW_5
  refine lv_aload_n hx hb dX7_save_11 rfl (lv_at hl 0 rfl) ?_
  refine lv_iconst (v := 1) hx hb dX7_save_12 (by decide) ?_
  refine gF_hasSnapshotP C hW_8 hS_6 (hwc hwX7) (mc qw_290) rfl rfl dX7_save_13 (fun H_9 locs_10 hW_11 hS_12 => ?_)
  obtain ⟨w_13, ew_13⟩ : ∃ Z9, Z9 = upd (X.1 11) (0) 1 := ⟨_, rfl⟩
  have hW_14 : Wd G (setRow (setRow X 10 w_7) 11 w_13) H_9 := Wd.cast (by rw [ew_13]; exact (st_base.trans (congrArg (fun Z9 => setRow (setRow X 10 w_7) 11 (upd Z9 (0) 1)) (rd_in (by decide) rfl)))) hW_11
  refine lv_aload_n hx hb dX7_save_16 rfl (lv_at hl 0 rfl) ?_
  refine gF_plant C hW_14 (hwc hwX7) (mc qw_287) dX7_save_17 ?_
  refine gP_ingotCountN C hW_14 h0_11 (hwc hwX4) nw_9 dX7_save_20 ?_
  refine g_top (y := X.1 0 (43)) (congrFun (rd_in (by decide) (rd_in (by decide) rfl)) _) ?_
  exact g_iret C hr hlk hW_14 hS_12 dX7_save_23 (by subst ew_13; subst ew_7; exact ⟨rfl, rfl⟩)

set_option maxHeartbeats 4000000 in
set_option maxRecDepth 100000 in
theorem cX7_restore_ok (l : Launch) (G : GT) (hst : l.stackTraces = false) (X : St) : MetXI l G 1 yX7_restore (wsG yX7_restore cX7_restore 1 (some .int)) (rmk 1 6 264) [.ref (ad G 715)] X (fun res Y => (¬ X.1 11 0 = 0 ∧ res = cpPlantR (X.1 0) (X.1 10) 43) ∧ Y = setRow (setRow X 0 (cpPlantR (X.1 0) (X.1 10))) 11 (upd (X.1 11) (4) 0)) (fun E Y => (E = "java/lang/IllegalStateException" ∧ X.1 11 0 = 0) ∧ Y = X) := by
  refine g_metX (cc := cX7_restore) (maxL := 1) (ret := (some .int)) (by decide) rfl (Nat.le_of_ble_eq_true rfl) ?_
  intro p e s m below meth c ls C hr hlk hex hW hl
  have hx := C.1.1
  have hb := C.1.2.1
  have hS : va_S (Ab G) s.heap s.heap [] := va_S.rf
  have hl : lv_has ls 1 [(0, .ref (ad G 715))] := hl
  refine lv_aload_n hx hb dX7_restore_0 rfl (lv_at hl 0 rfl) ?_
  refine gF_hasSnapshot C hW (hwc hwX7) (mc qw_290) dX7_restore_1 ?_
  refine lv_if_ne (tgt := 15) hx hb dX7_restore_4 (by decide) (fun b_1 => ?_) (fun b_1 => ?_)
  · refine lv_aload_n hx hb dX7_restore_15 rfl (lv_at hl 0 rfl) ?_
    refine gF_plant C hW (hwc hwX7) (mc qw_287) dX7_restore_16 ?_
    refine lv_aload_n hx hb dX7_restore_19 rfl (lv_at hl 0 rfl) ?_
    refine gF_snapshot C hW (hwc hwX7) (mc qw_289) dX7_restore_20 ?_
    refine g_callv (va_runV (As := [.ref (ad G 650)]) (rest := []) C.1 (cX4_copyFrom_ok l G X 0 h0_11 10 h10_11 (by decide)) (cwV 1 C.1.2.2.2.2 (gV qw_772 qw_773 qw_774 qw_72 qw_775) rfl rfl rfl (by decide +kernel) ⟨Nat.le_of_ble_eq_true rfl, Nat.le_of_ble_eq_true rfl⟩) (g_rPlant C hW hS h0_11 [.ref (ad G 650)]) rfl rfl hl.1 rfl (lv_room (Nat.le_of_ble_eq_true rfl)) dX7_restore_23 ⟨by decide, by decide⟩) hS (fun Y_3 H_4 locs_5 hW_6 hS_7 h_2 => ?_)
    obtain ⟨w_8, ew_8⟩ : ∃ Z9, Z9 = cpPlantR (X.1 0) (X.1 10) := ⟨_, rfl⟩
    have hW_9 : Wd G (setRow X 0 w_8) H_4 := Wd.cast (by rw [h_2, ew_8]) hW_6
    refine lv_aload_n hx hb dX7_restore_26 rfl (lv_at hl 0 rfl) ?_
    refine gF_history C hW_9 (hwc hwX7) (mc qw_288) dX7_restore_27 ?_
    refine g_callv (va_runV (As := []) (rest := []) C.1 (cX2_forget_ok l G (setRow X 0 w_8)) (cwV 0 C.1.2.2.2.2 (gV qw_1460 qw_1461 qw_1462 qw_75 qw_1463) rfl rfl rfl (by decide +kernel) ⟨Nat.le_of_ble_eq_true rfl, Nat.le_of_ble_eq_true rfl⟩) (g_rHist C hW_9 hS_7 []) rfl rfl hl.1 rfl (lv_room (Nat.le_of_ble_eq_true rfl)) dX7_restore_30 ⟨by decide, by decide⟩) hS_7 (fun Y_11 H_12 locs_13 hW_14 hS_15 h_10 => ?_)
    obtain ⟨w_16, ew_16⟩ : ∃ Z9, Z9 = upd (X.1 11) (4) 0 := ⟨_, rfl⟩
    have hW_17 : Wd G (setRow (setRow X 0 w_8) 11 w_16) H_12 := Wd.cast (by rw [h_10, ew_16]; exact (congrArg (fun Z9 => setRow (setRow X 0 w_8) 11 (upd Z9 (4) 0)) (rd_in (by decide) rfl))) hW_14
    refine lv_aload_n hx hb dX7_restore_33 rfl (lv_at hl 0 rfl) ?_
    refine gF_plant C hW_17 (hwc hwX7) (mc qw_287) dX7_restore_34 ?_
    refine gP_ingotCountN C hW_17 h0_11 (hwc hwX4) nw_9 dX7_restore_37 ?_
    refine g_top (y := w_8 (43)) (congrFun (rd_in (by decide) rd_out) _) ?_
    refine W.widen (k := 1) (n := 6) (by decide) (by decide) ?_
    refine vx_ret ?_
    exact g_iret C hr hlk hW_17 hS_15 dX7_restore_40 (by subst ew_16; subst ew_8; exact ⟨⟨b_1, rfl⟩, rfl⟩)
  · exact g_thr0 C hst (ik := 111) (ic := 113) (names := ["java/lang/RuntimeException", "java/lang/Exception"]) hex hlk hl.1 (by decide) (by decide) (mc qk_ISE) (mc qi_ISE) (fun w hw => mc (qg_ISE w hw)) qn_ISE nest_on qo_ISE dX7_restore_7 dX7_restore_10 dX7_restore_11 dX7_restore_14 (Nat.le_of_ble_eq_true rfl) (Nat.le_of_ble_eq_true rfl) (by decide) (by decide) (by decide) (by decide) hW hS ⟨⟨rfl, b_1⟩, rfl⟩

set_option maxHeartbeats 4000000 in
set_option maxRecDepth 100000 in
theorem cX7_change0_ok (l : Launch) (G : GT) (hst : l.stackTraces = false) (X : St) (hi : PInv (X.1 0)) (sp : Nat) (hsp : sp < 9) (es : X.1 11 3 = nI sp) (cn : Nat) (hcn : cn ≤ 8) (ec : X.1 11 4 = nI cn) (a b c_ : Int32) : MetXI l G 1 yX7_change (wsG yX7_change cX7_change 6 (some .int)) (rmk 1 41 424) [.ref (ad G 715), .ref (cy G (20 + 0)), .int a, .int b, .int c_] X (fun res Y => refE (performR 0 (X.1 0) a b c_).1 = none ∧ res = (performR 0 (X.1 0) a b c_).1 ∧ Y = setRow (setRow (setRow X (sp + 1) (cpPlantR (X.1 (sp + 1)) (X.1 0))) 0 (performR 0 (X.1 0) a b c_).2) 11 (keepR (X.1 11) sp cn)) (fun E Y => refE (performR 0 (X.1 0) a b c_).1 = some E ∧ Y = setRow (setRow X (sp + 1) (cpPlantR (X.1 (sp + 1)) (X.1 0))) 0 (performR 0 (X.1 0) a b c_).2) := by
  refine g_metX (cc := cX7_change) (maxL := 6) (ret := (some .int)) (by decide) rfl (Nat.le_of_ble_eq_true rfl) ?_
  intro p e s m below meth c ls C hr hlk hex hW hl
  have hx := C.1.1
  have hb := C.1.2.1
  have hS : va_S (Ab G) s.heap s.heap [] := va_S.rf
  have hl : lv_has ls 6 [(0, .ref (ad G 715)), (1, .ref (cy G (20 + 0))), (2, .int a), (3, .int b), (4, .int c_)] := hl
  refine lv_aload_n hx hb dX7_change_0 rfl (lv_at hl 0 rfl) ?_
  refine gF_history C hW (hwc hwX7) (mc qw_288) dX7_change_1 ?_
  refine lv_aload_n hx hb dX7_change_4 rfl (lv_at hl 0 rfl) ?_
  refine gF_plant C hW (hwc hwX7) (mc qw_287) dX7_change_5 ?_
  refine g_callv (va_runV (As := [.ref (ad G 0)]) (rest := []) C.1 (cX2_note_ok l G X sp hsp es) (cwV 1 C.1.2.2.2.2 (gV qw_804 qw_805 qw_806 qw_75 qw_807) rfl rfl rfl (by decide +kernel) ⟨Nat.le_of_ble_eq_true rfl, Nat.le_of_ble_eq_true rfl⟩) (g_rHist C hW hS [.ref (ad G 0)]) rfl rfl hl.1 rfl (lv_room (Nat.le_of_ble_eq_true rfl)) dX7_change_8 ⟨by decide, by decide⟩) hS (fun Y_2 H_3 locs_4 hW_5 hS_6 h_1 => ?_)
  obtain ⟨w_7, ew_7⟩ : ∃ Z9, Z9 = cpPlantR (X.1 (sp + 1)) (X.1 0) := ⟨_, rfl⟩
  have hW_8 : Wd G (setRow X (sp + 1) w_7) H_3 := Wd.cast (by rw [h_1, ew_7]) hW_5
  refine lv_aload_n hx hb dX7_change_11 rfl (lv_at hl 0 rfl) ?_
  refine gF_plant C hW_8 (hwc hwX7) (mc qw_287) dX7_change_12 ?_
  refine lv_aload_n hx hb dX7_change_15 rfl (lv_at hl 1 rfl) ?_
  refine lv_iload_n hx hb dX7_change_16 rfl (lv_at hl 2 rfl) ?_
  refine lv_iload_n hx hb dX7_change_17 rfl (lv_at hl 3 rfl) ?_
  refine lv_iload hx hb dX7_change_18 (lv_at hl 4 rfl) ?_
  refine g_calli (va_runV (As := [.ref (cy G (20 + 0)), .int a, .int b, .int c_]) (rest := []) C.1 (cX4_perform0_ok l G (setRow X (sp + 1) w_7) 0 h0_11 (show PInv ((setRow X (sp + 1) w_7).1 0) from by rw [show (setRow X (sp + 1) w_7).1 0 = X.1 0 from (rd_in (by omega) rfl)]; exact hi) a b c_) (cwV 4 C.1.2.2.2.2 (gV qw_809 qw_810 qw_811 qw_72 qw_812) rfl rfl rfl (by decide +kernel) ⟨Nat.le_of_ble_eq_true rfl, Nat.le_of_ble_eq_true rfl⟩) (g_rPlant C hW_8 hS_6 h0_11 [.ref (cy G (20 + 0)), .int a, .int b, .int c_]) rfl rfl hl.1 rfl (lv_room (Nat.le_of_ble_eq_true rfl)) dX7_change_20 ⟨by decide, by decide⟩) hS_6 (fun r_10 Y_11 H_12 locs_13 hW_14 hS_15 h_9 => ?_)
  obtain ⟨h_16, h_9⟩ := h_9
  replace h_16 := h_16.trans (congrArg (fun Z9 => (performR 0 Z9 a b c_).1) (rd_in (by omega) rfl))
  subst h_16
  obtain ⟨w_17, ew_17⟩ : ∃ Z9, Z9 = (performR 0 (X.1 0) a b c_).2 := ⟨_, rfl⟩
  have hW_18 : Wd G (setRow (setRow X (sp + 1) w_7) 0 w_17) H_12 := Wd.cast (by rw [h_9, ew_17]; exact (congrArg (fun Z9 => setRow (setRow X (sp + 1) w_7) 0 ((performR 0 Z9 a b c_).2)) (rd_in (by omega) rfl))) hW_14
  refine lv_topi (fun v_19 ev_19 => ?_)
  refine lv_istore (lv' := [(5, .int v_19), (0, .ref (ad G 715)), (1, .ref (cy G (20 + 0))), (2, .int a), (3, .int b), (4, .int c_)]) hx hb dX7_change_23 hl (by decide) rfl (fun ls_20 hl_21 => ?_)
  refine lv_iload hx hb dX7_change_25 (lv_at hl_21 0 rfl) ?_
  refine g_cxv (vx_runS (As := [.int v_19]) (rest := []) C.1 (cX7_throwIfRefused_ok l G hst (setRow (setRow X (sp + 1) w_7) 0 w_17) v_19) (va_cwS 1 C.1.2.2.2.2 (gS qw_909 qw_910 qw_71 qw_911) rfl rfl rfl (by decide +kernel) ⟨Nat.le_of_ble_eq_true rfl, Nat.le_of_ble_eq_true rfl⟩) (g_pre C hW_18 hS_15 [.int v_19]) rfl rfl hl_21.1 rfl (lv_room (Nat.le_of_ble_eq_true rfl)) dX7_change_27 ⟨by decide, by decide⟩) hS_15 ?_ ?_
  · intro E9 ce9 q9 Y_23 H9 locs9 hW9 hS9 h_22 h91 h92 h93
    obtain ⟨b_24, hy_25⟩ := h_22
    replace hy_25 := hy_25.symm
    subst hy_25
    exact g_out hex hlk hW9 hS9 (by subst ev_19; subst ew_17; subst ew_7; exact ⟨b_24, rfl⟩) h91 h92 h93 (by decide) (by decide)
  intro Y_27 H_31 locs_32 hW_29 hS_30 h_26
  obtain ⟨b_33, hy_34⟩ := h_26
  replace hy_34 := hy_34.symm
  subst hy_34
  refine lv_aload_n hx hb dX7_change_30 rfl (lv_at hl_21 1 rfl) ?_
  refine gF_history C hW_29 (hwc hwX7) (mc qw_288) dX7_change_31 ?_
  refine g_callv (va_runV (As := []) (rest := []) C.1 (cX2_keep_ok l G (setRow (setRow X (sp + 1) w_7) 0 w_17) sp hsp ((congrFun (rd_in (by decide) (rd_in (by omega) rfl)) _).trans es) cn hcn ((congrFun (rd_in (by decide) (rd_in (by omega) rfl)) _).trans ec)) (cwV 0 C.1.2.2.2.2 (gV qw_983 qw_984 qw_985 qw_75 qw_986) rfl rfl rfl (by decide +kernel) ⟨Nat.le_of_ble_eq_true rfl, Nat.le_of_ble_eq_true rfl⟩) (g_rHist C hW_29 hS_30 []) rfl rfl hl_21.1 rfl (lv_room (Nat.le_of_ble_eq_true rfl)) dX7_change_34 ⟨by decide, by decide⟩) hS_30 (fun Y_36 H_37 locs_38 hW_39 hS_40 h_35 => ?_)
  obtain ⟨w_41, ew_41⟩ : ∃ Z9, Z9 = keepR (X.1 11) sp cn := ⟨_, rfl⟩
  have hW_42 : Wd G (setRow (setRow (setRow X (sp + 1) w_7) 0 w_17) 11 w_41) H_37 := Wd.cast (by rw [h_35, ew_41]; exact (congrArg (fun Z9 => setRow (setRow (setRow X (sp + 1) w_7) 0 w_17) 11 (keepR Z9 sp cn)) (rd_in (by decide) (rd_in (by omega) rfl)))) hW_39
  refine lv_iload hx hb dX7_change_37 (lv_at hl_21 0 rfl) ?_
  refine W.widen (k := 1) (n := 6) (by decide) (by decide) ?_
  refine vx_ret ?_
  exact g_iret C hr hlk hW_42 hS_40 dX7_change_39 (by subst ew_41; subst ev_19; subst ew_17; subst ew_7; exact ⟨b_33, rfl, rfl⟩)

set_option maxHeartbeats 4000000 in
set_option maxRecDepth 100000 in
theorem cX7_change1_ok (l : Launch) (G : GT) (hst : l.stackTraces = false) (X : St) (hi : PInv (X.1 0)) (sp : Nat) (hsp : sp < 9) (es : X.1 11 3 = nI sp) (cn : Nat) (hcn : cn ≤ 8) (ec : X.1 11 4 = nI cn) (a b c_ : Int32) : MetXI l G 1 yX7_change (wsG yX7_change cX7_change 6 (some .int)) (rmk 1 41 424) [.ref (ad G 715), .ref (cy G (20 + 1)), .int a, .int b, .int c_] X (fun res Y => refE (performR 1 (X.1 0) a b c_).1 = none ∧ res = (performR 1 (X.1 0) a b c_).1 ∧ Y = setRow (setRow (setRow X (sp + 1) (cpPlantR (X.1 (sp + 1)) (X.1 0))) 0 (performR 1 (X.1 0) a b c_).2) 11 (keepR (X.1 11) sp cn)) (fun E Y => refE (performR 1 (X.1 0) a b c_).1 = some E ∧ Y = setRow (setRow X (sp + 1) (cpPlantR (X.1 (sp + 1)) (X.1 0))) 0 (performR 1 (X.1 0) a b c_).2) := by
  refine g_metX (cc := cX7_change) (maxL := 6) (ret := (some .int)) (by decide) rfl (Nat.le_of_ble_eq_true rfl) ?_
  intro p e s m below meth c ls C hr hlk hex hW hl
  have hx := C.1.1
  have hb := C.1.2.1
  have hS : va_S (Ab G) s.heap s.heap [] := va_S.rf
  have hl : lv_has ls 6 [(0, .ref (ad G 715)), (1, .ref (cy G (20 + 1))), (2, .int a), (3, .int b), (4, .int c_)] := hl
  refine lv_aload_n hx hb dX7_change_0 rfl (lv_at hl 0 rfl) ?_
  refine gF_history C hW (hwc hwX7) (mc qw_288) dX7_change_1 ?_
  refine lv_aload_n hx hb dX7_change_4 rfl (lv_at hl 0 rfl) ?_
  refine gF_plant C hW (hwc hwX7) (mc qw_287) dX7_change_5 ?_
  refine g_callv (va_runV (As := [.ref (ad G 0)]) (rest := []) C.1 (cX2_note_ok l G X sp hsp es) (cwV 1 C.1.2.2.2.2 (gV qw_804 qw_805 qw_806 qw_75 qw_807) rfl rfl rfl (by decide +kernel) ⟨Nat.le_of_ble_eq_true rfl, Nat.le_of_ble_eq_true rfl⟩) (g_rHist C hW hS [.ref (ad G 0)]) rfl rfl hl.1 rfl (lv_room (Nat.le_of_ble_eq_true rfl)) dX7_change_8 ⟨by decide, by decide⟩) hS (fun Y_2 H_3 locs_4 hW_5 hS_6 h_1 => ?_)
  obtain ⟨w_7, ew_7⟩ : ∃ Z9, Z9 = cpPlantR (X.1 (sp + 1)) (X.1 0) := ⟨_, rfl⟩
  have hW_8 : Wd G (setRow X (sp + 1) w_7) H_3 := Wd.cast (by rw [h_1, ew_7]) hW_5
  refine lv_aload_n hx hb dX7_change_11 rfl (lv_at hl 0 rfl) ?_
  refine gF_plant C hW_8 (hwc hwX7) (mc qw_287) dX7_change_12 ?_
  refine lv_aload_n hx hb dX7_change_15 rfl (lv_at hl 1 rfl) ?_
  refine lv_iload_n hx hb dX7_change_16 rfl (lv_at hl 2 rfl) ?_
  refine lv_iload_n hx hb dX7_change_17 rfl (lv_at hl 3 rfl) ?_
  refine lv_iload hx hb dX7_change_18 (lv_at hl 4 rfl) ?_
  refine g_calli (va_runV (As := [.ref (cy G (20 + 1)), .int a, .int b, .int c_]) (rest := []) C.1 (cX4_perform1_ok l G (setRow X (sp + 1) w_7) 0 h0_11 (show PInv ((setRow X (sp + 1) w_7).1 0) from by rw [show (setRow X (sp + 1) w_7).1 0 = X.1 0 from (rd_in (by omega) rfl)]; exact hi) a b c_) (cwV 4 C.1.2.2.2.2 (gV qw_809 qw_810 qw_811 qw_72 qw_812) rfl rfl rfl (by decide +kernel) ⟨Nat.le_of_ble_eq_true rfl, Nat.le_of_ble_eq_true rfl⟩) (g_rPlant C hW_8 hS_6 h0_11 [.ref (cy G (20 + 1)), .int a, .int b, .int c_]) rfl rfl hl.1 rfl (lv_room (Nat.le_of_ble_eq_true rfl)) dX7_change_20 ⟨by decide, by decide⟩) hS_6 (fun r_10 Y_11 H_12 locs_13 hW_14 hS_15 h_9 => ?_)
  obtain ⟨h_16, h_9⟩ := h_9
  replace h_16 := h_16.trans (congrArg (fun Z9 => (performR 1 Z9 a b c_).1) (rd_in (by omega) rfl))
  subst h_16
  obtain ⟨w_17, ew_17⟩ : ∃ Z9, Z9 = (performR 1 (X.1 0) a b c_).2 := ⟨_, rfl⟩
  have hW_18 : Wd G (setRow (setRow X (sp + 1) w_7) 0 w_17) H_12 := Wd.cast (by rw [h_9, ew_17]; exact (congrArg (fun Z9 => setRow (setRow X (sp + 1) w_7) 0 ((performR 1 Z9 a b c_).2)) (rd_in (by omega) rfl))) hW_14
  refine lv_topi (fun v_19 ev_19 => ?_)
  refine lv_istore (lv' := [(5, .int v_19), (0, .ref (ad G 715)), (1, .ref (cy G (20 + 1))), (2, .int a), (3, .int b), (4, .int c_)]) hx hb dX7_change_23 hl (by decide) rfl (fun ls_20 hl_21 => ?_)
  refine lv_iload hx hb dX7_change_25 (lv_at hl_21 0 rfl) ?_
  refine g_cxv (vx_runS (As := [.int v_19]) (rest := []) C.1 (cX7_throwIfRefused_ok l G hst (setRow (setRow X (sp + 1) w_7) 0 w_17) v_19) (va_cwS 1 C.1.2.2.2.2 (gS qw_909 qw_910 qw_71 qw_911) rfl rfl rfl (by decide +kernel) ⟨Nat.le_of_ble_eq_true rfl, Nat.le_of_ble_eq_true rfl⟩) (g_pre C hW_18 hS_15 [.int v_19]) rfl rfl hl_21.1 rfl (lv_room (Nat.le_of_ble_eq_true rfl)) dX7_change_27 ⟨by decide, by decide⟩) hS_15 ?_ ?_
  · intro E9 ce9 q9 Y_23 H9 locs9 hW9 hS9 h_22 h91 h92 h93
    obtain ⟨b_24, hy_25⟩ := h_22
    replace hy_25 := hy_25.symm
    subst hy_25
    exact g_out hex hlk hW9 hS9 (by subst ev_19; subst ew_17; subst ew_7; exact ⟨b_24, rfl⟩) h91 h92 h93 (by decide) (by decide)
  intro Y_27 H_31 locs_32 hW_29 hS_30 h_26
  obtain ⟨b_33, hy_34⟩ := h_26
  replace hy_34 := hy_34.symm
  subst hy_34
  refine lv_aload_n hx hb dX7_change_30 rfl (lv_at hl_21 1 rfl) ?_
  refine gF_history C hW_29 (hwc hwX7) (mc qw_288) dX7_change_31 ?_
  refine g_callv (va_runV (As := []) (rest := []) C.1 (cX2_keep_ok l G (setRow (setRow X (sp + 1) w_7) 0 w_17) sp hsp ((congrFun (rd_in (by decide) (rd_in (by omega) rfl)) _).trans es) cn hcn ((congrFun (rd_in (by decide) (rd_in (by omega) rfl)) _).trans ec)) (cwV 0 C.1.2.2.2.2 (gV qw_983 qw_984 qw_985 qw_75 qw_986) rfl rfl rfl (by decide +kernel) ⟨Nat.le_of_ble_eq_true rfl, Nat.le_of_ble_eq_true rfl⟩) (g_rHist C hW_29 hS_30 []) rfl rfl hl_21.1 rfl (lv_room (Nat.le_of_ble_eq_true rfl)) dX7_change_34 ⟨by decide, by decide⟩) hS_30 (fun Y_36 H_37 locs_38 hW_39 hS_40 h_35 => ?_)
  obtain ⟨w_41, ew_41⟩ : ∃ Z9, Z9 = keepR (X.1 11) sp cn := ⟨_, rfl⟩
  have hW_42 : Wd G (setRow (setRow (setRow X (sp + 1) w_7) 0 w_17) 11 w_41) H_37 := Wd.cast (by rw [h_35, ew_41]; exact (congrArg (fun Z9 => setRow (setRow (setRow X (sp + 1) w_7) 0 w_17) 11 (keepR Z9 sp cn)) (rd_in (by decide) (rd_in (by omega) rfl)))) hW_39
  refine lv_iload hx hb dX7_change_37 (lv_at hl_21 0 rfl) ?_
  refine W.widen (k := 1) (n := 6) (by decide) (by decide) ?_
  refine vx_ret ?_
  exact g_iret C hr hlk hW_42 hS_40 dX7_change_39 (by subst ew_41; subst ev_19; subst ew_17; subst ew_7; exact ⟨b_33, rfl, rfl⟩)

set_option maxHeartbeats 4000000 in
set_option maxRecDepth 100000 in
theorem cX7_change2_ok (l : Launch) (G : GT) (hst : l.stackTraces = false) (X : St) (hi : PInv (X.1 0)) (sp : Nat) (hsp : sp < 9) (es : X.1 11 3 = nI sp) (cn : Nat) (hcn : cn ≤ 8) (ec : X.1 11 4 = nI cn) (a b c_ : Int32) : MetXI l G 1 yX7_change (wsG yX7_change cX7_change 6 (some .int)) (rmk 1 41 424) [.ref (ad G 715), .ref (cy G (20 + 2)), .int a, .int b, .int c_] X (fun res Y => refE (performR 2 (X.1 0) a b c_).1 = none ∧ res = (performR 2 (X.1 0) a b c_).1 ∧ Y = setRow (setRow (setRow X (sp + 1) (cpPlantR (X.1 (sp + 1)) (X.1 0))) 0 (performR 2 (X.1 0) a b c_).2) 11 (keepR (X.1 11) sp cn)) (fun E Y => refE (performR 2 (X.1 0) a b c_).1 = some E ∧ Y = setRow (setRow X (sp + 1) (cpPlantR (X.1 (sp + 1)) (X.1 0))) 0 (performR 2 (X.1 0) a b c_).2) := by
  refine g_metX (cc := cX7_change) (maxL := 6) (ret := (some .int)) (by decide) rfl (Nat.le_of_ble_eq_true rfl) ?_
  intro p e s m below meth c ls C hr hlk hex hW hl
  have hx := C.1.1
  have hb := C.1.2.1
  have hS : va_S (Ab G) s.heap s.heap [] := va_S.rf
  have hl : lv_has ls 6 [(0, .ref (ad G 715)), (1, .ref (cy G (20 + 2))), (2, .int a), (3, .int b), (4, .int c_)] := hl
  refine lv_aload_n hx hb dX7_change_0 rfl (lv_at hl 0 rfl) ?_
  refine gF_history C hW (hwc hwX7) (mc qw_288) dX7_change_1 ?_
  refine lv_aload_n hx hb dX7_change_4 rfl (lv_at hl 0 rfl) ?_
  refine gF_plant C hW (hwc hwX7) (mc qw_287) dX7_change_5 ?_
  refine g_callv (va_runV (As := [.ref (ad G 0)]) (rest := []) C.1 (cX2_note_ok l G X sp hsp es) (cwV 1 C.1.2.2.2.2 (gV qw_804 qw_805 qw_806 qw_75 qw_807) rfl rfl rfl (by decide +kernel) ⟨Nat.le_of_ble_eq_true rfl, Nat.le_of_ble_eq_true rfl⟩) (g_rHist C hW hS [.ref (ad G 0)]) rfl rfl hl.1 rfl (lv_room (Nat.le_of_ble_eq_true rfl)) dX7_change_8 ⟨by decide, by decide⟩) hS (fun Y_2 H_3 locs_4 hW_5 hS_6 h_1 => ?_)
  obtain ⟨w_7, ew_7⟩ : ∃ Z9, Z9 = cpPlantR (X.1 (sp + 1)) (X.1 0) := ⟨_, rfl⟩
  have hW_8 : Wd G (setRow X (sp + 1) w_7) H_3 := Wd.cast (by rw [h_1, ew_7]) hW_5
  refine lv_aload_n hx hb dX7_change_11 rfl (lv_at hl 0 rfl) ?_
  refine gF_plant C hW_8 (hwc hwX7) (mc qw_287) dX7_change_12 ?_
  refine lv_aload_n hx hb dX7_change_15 rfl (lv_at hl 1 rfl) ?_
  refine lv_iload_n hx hb dX7_change_16 rfl (lv_at hl 2 rfl) ?_
  refine lv_iload_n hx hb dX7_change_17 rfl (lv_at hl 3 rfl) ?_
  refine lv_iload hx hb dX7_change_18 (lv_at hl 4 rfl) ?_
  refine g_calli (va_runV (As := [.ref (cy G (20 + 2)), .int a, .int b, .int c_]) (rest := []) C.1 (cX4_perform2_ok l G (setRow X (sp + 1) w_7) 0 h0_11 (show PInv ((setRow X (sp + 1) w_7).1 0) from by rw [show (setRow X (sp + 1) w_7).1 0 = X.1 0 from (rd_in (by omega) rfl)]; exact hi) a b c_) (cwV 4 C.1.2.2.2.2 (gV qw_809 qw_810 qw_811 qw_72 qw_812) rfl rfl rfl (by decide +kernel) ⟨Nat.le_of_ble_eq_true rfl, Nat.le_of_ble_eq_true rfl⟩) (g_rPlant C hW_8 hS_6 h0_11 [.ref (cy G (20 + 2)), .int a, .int b, .int c_]) rfl rfl hl.1 rfl (lv_room (Nat.le_of_ble_eq_true rfl)) dX7_change_20 ⟨by decide, by decide⟩) hS_6 (fun r_10 Y_11 H_12 locs_13 hW_14 hS_15 h_9 => ?_)
  obtain ⟨h_16, h_9⟩ := h_9
  replace h_16 := h_16.trans (congrArg (fun Z9 => (performR 2 Z9 a b c_).1) (rd_in (by omega) rfl))
  subst h_16
  obtain ⟨w_17, ew_17⟩ : ∃ Z9, Z9 = (performR 2 (X.1 0) a b c_).2 := ⟨_, rfl⟩
  have hW_18 : Wd G (setRow (setRow X (sp + 1) w_7) 0 w_17) H_12 := Wd.cast (by rw [h_9, ew_17]; exact (congrArg (fun Z9 => setRow (setRow X (sp + 1) w_7) 0 ((performR 2 Z9 a b c_).2)) (rd_in (by omega) rfl))) hW_14
  refine lv_topi (fun v_19 ev_19 => ?_)
  refine lv_istore (lv' := [(5, .int v_19), (0, .ref (ad G 715)), (1, .ref (cy G (20 + 2))), (2, .int a), (3, .int b), (4, .int c_)]) hx hb dX7_change_23 hl (by decide) rfl (fun ls_20 hl_21 => ?_)
  refine lv_iload hx hb dX7_change_25 (lv_at hl_21 0 rfl) ?_
  refine g_cxv (vx_runS (As := [.int v_19]) (rest := []) C.1 (cX7_throwIfRefused_ok l G hst (setRow (setRow X (sp + 1) w_7) 0 w_17) v_19) (va_cwS 1 C.1.2.2.2.2 (gS qw_909 qw_910 qw_71 qw_911) rfl rfl rfl (by decide +kernel) ⟨Nat.le_of_ble_eq_true rfl, Nat.le_of_ble_eq_true rfl⟩) (g_pre C hW_18 hS_15 [.int v_19]) rfl rfl hl_21.1 rfl (lv_room (Nat.le_of_ble_eq_true rfl)) dX7_change_27 ⟨by decide, by decide⟩) hS_15 ?_ ?_
  · intro E9 ce9 q9 Y_23 H9 locs9 hW9 hS9 h_22 h91 h92 h93
    obtain ⟨b_24, hy_25⟩ := h_22
    replace hy_25 := hy_25.symm
    subst hy_25
    exact g_out hex hlk hW9 hS9 (by subst ev_19; subst ew_17; subst ew_7; exact ⟨b_24, rfl⟩) h91 h92 h93 (by decide) (by decide)
  intro Y_27 H_31 locs_32 hW_29 hS_30 h_26
  obtain ⟨b_33, hy_34⟩ := h_26
  replace hy_34 := hy_34.symm
  subst hy_34
  refine lv_aload_n hx hb dX7_change_30 rfl (lv_at hl_21 1 rfl) ?_
  refine gF_history C hW_29 (hwc hwX7) (mc qw_288) dX7_change_31 ?_
  refine g_callv (va_runV (As := []) (rest := []) C.1 (cX2_keep_ok l G (setRow (setRow X (sp + 1) w_7) 0 w_17) sp hsp ((congrFun (rd_in (by decide) (rd_in (by omega) rfl)) _).trans es) cn hcn ((congrFun (rd_in (by decide) (rd_in (by omega) rfl)) _).trans ec)) (cwV 0 C.1.2.2.2.2 (gV qw_983 qw_984 qw_985 qw_75 qw_986) rfl rfl rfl (by decide +kernel) ⟨Nat.le_of_ble_eq_true rfl, Nat.le_of_ble_eq_true rfl⟩) (g_rHist C hW_29 hS_30 []) rfl rfl hl_21.1 rfl (lv_room (Nat.le_of_ble_eq_true rfl)) dX7_change_34 ⟨by decide, by decide⟩) hS_30 (fun Y_36 H_37 locs_38 hW_39 hS_40 h_35 => ?_)
  obtain ⟨w_41, ew_41⟩ : ∃ Z9, Z9 = keepR (X.1 11) sp cn := ⟨_, rfl⟩
  have hW_42 : Wd G (setRow (setRow (setRow X (sp + 1) w_7) 0 w_17) 11 w_41) H_37 := Wd.cast (by rw [h_35, ew_41]; exact (congrArg (fun Z9 => setRow (setRow (setRow X (sp + 1) w_7) 0 w_17) 11 (keepR Z9 sp cn)) (rd_in (by decide) (rd_in (by omega) rfl)))) hW_39
  refine lv_iload hx hb dX7_change_37 (lv_at hl_21 0 rfl) ?_
  refine W.widen (k := 1) (n := 6) (by decide) (by decide) ?_
  refine vx_ret ?_
  exact g_iret C hr hlk hW_42 hS_40 dX7_change_39 (by subst ew_41; subst ev_19; subst ew_17; subst ew_7; exact ⟨b_33, rfl, rfl⟩)

set_option maxHeartbeats 4000000 in
set_option maxRecDepth 100000 in
theorem cX7_change3_ok (l : Launch) (G : GT) (hst : l.stackTraces = false) (X : St) (hi : PInv (X.1 0)) (sp : Nat) (hsp : sp < 9) (es : X.1 11 3 = nI sp) (cn : Nat) (hcn : cn ≤ 8) (ec : X.1 11 4 = nI cn) (a b c_ : Int32) : MetXI l G 1 yX7_change (wsG yX7_change cX7_change 6 (some .int)) (rmk 1 41 424) [.ref (ad G 715), .ref (cy G (20 + 3)), .int a, .int b, .int c_] X (fun res Y => refE (performR 3 (X.1 0) a b c_).1 = none ∧ res = (performR 3 (X.1 0) a b c_).1 ∧ Y = setRow (setRow (setRow X (sp + 1) (cpPlantR (X.1 (sp + 1)) (X.1 0))) 0 (performR 3 (X.1 0) a b c_).2) 11 (keepR (X.1 11) sp cn)) (fun E Y => refE (performR 3 (X.1 0) a b c_).1 = some E ∧ Y = setRow (setRow X (sp + 1) (cpPlantR (X.1 (sp + 1)) (X.1 0))) 0 (performR 3 (X.1 0) a b c_).2) := by
  refine g_metX (cc := cX7_change) (maxL := 6) (ret := (some .int)) (by decide) rfl (Nat.le_of_ble_eq_true rfl) ?_
  intro p e s m below meth c ls C hr hlk hex hW hl
  have hx := C.1.1
  have hb := C.1.2.1
  have hS : va_S (Ab G) s.heap s.heap [] := va_S.rf
  have hl : lv_has ls 6 [(0, .ref (ad G 715)), (1, .ref (cy G (20 + 3))), (2, .int a), (3, .int b), (4, .int c_)] := hl
  refine lv_aload_n hx hb dX7_change_0 rfl (lv_at hl 0 rfl) ?_
  refine gF_history C hW (hwc hwX7) (mc qw_288) dX7_change_1 ?_
  refine lv_aload_n hx hb dX7_change_4 rfl (lv_at hl 0 rfl) ?_
  refine gF_plant C hW (hwc hwX7) (mc qw_287) dX7_change_5 ?_
  refine g_callv (va_runV (As := [.ref (ad G 0)]) (rest := []) C.1 (cX2_note_ok l G X sp hsp es) (cwV 1 C.1.2.2.2.2 (gV qw_804 qw_805 qw_806 qw_75 qw_807) rfl rfl rfl (by decide +kernel) ⟨Nat.le_of_ble_eq_true rfl, Nat.le_of_ble_eq_true rfl⟩) (g_rHist C hW hS [.ref (ad G 0)]) rfl rfl hl.1 rfl (lv_room (Nat.le_of_ble_eq_true rfl)) dX7_change_8 ⟨by decide, by decide⟩) hS (fun Y_2 H_3 locs_4 hW_5 hS_6 h_1 => ?_)
  obtain ⟨w_7, ew_7⟩ : ∃ Z9, Z9 = cpPlantR (X.1 (sp + 1)) (X.1 0) := ⟨_, rfl⟩
  have hW_8 : Wd G (setRow X (sp + 1) w_7) H_3 := Wd.cast (by rw [h_1, ew_7]) hW_5
  refine lv_aload_n hx hb dX7_change_11 rfl (lv_at hl 0 rfl) ?_
  refine gF_plant C hW_8 (hwc hwX7) (mc qw_287) dX7_change_12 ?_
  refine lv_aload_n hx hb dX7_change_15 rfl (lv_at hl 1 rfl) ?_
  refine lv_iload_n hx hb dX7_change_16 rfl (lv_at hl 2 rfl) ?_
  refine lv_iload_n hx hb dX7_change_17 rfl (lv_at hl 3 rfl) ?_
  refine lv_iload hx hb dX7_change_18 (lv_at hl 4 rfl) ?_
  refine g_calli (va_runV (As := [.ref (cy G (20 + 3)), .int a, .int b, .int c_]) (rest := []) C.1 (cX4_perform3_ok l G (setRow X (sp + 1) w_7) 0 h0_11 (show PInv ((setRow X (sp + 1) w_7).1 0) from by rw [show (setRow X (sp + 1) w_7).1 0 = X.1 0 from (rd_in (by omega) rfl)]; exact hi) a b c_) (cwV 4 C.1.2.2.2.2 (gV qw_809 qw_810 qw_811 qw_72 qw_812) rfl rfl rfl (by decide +kernel) ⟨Nat.le_of_ble_eq_true rfl, Nat.le_of_ble_eq_true rfl⟩) (g_rPlant C hW_8 hS_6 h0_11 [.ref (cy G (20 + 3)), .int a, .int b, .int c_]) rfl rfl hl.1 rfl (lv_room (Nat.le_of_ble_eq_true rfl)) dX7_change_20 ⟨by decide, by decide⟩) hS_6 (fun r_10 Y_11 H_12 locs_13 hW_14 hS_15 h_9 => ?_)
  obtain ⟨h_16, h_9⟩ := h_9
  replace h_16 := h_16.trans (congrArg (fun Z9 => (performR 3 Z9 a b c_).1) (rd_in (by omega) rfl))
  subst h_16
  obtain ⟨w_17, ew_17⟩ : ∃ Z9, Z9 = (performR 3 (X.1 0) a b c_).2 := ⟨_, rfl⟩
  have hW_18 : Wd G (setRow (setRow X (sp + 1) w_7) 0 w_17) H_12 := Wd.cast (by rw [h_9, ew_17]; exact (congrArg (fun Z9 => setRow (setRow X (sp + 1) w_7) 0 ((performR 3 Z9 a b c_).2)) (rd_in (by omega) rfl))) hW_14
  refine lv_topi (fun v_19 ev_19 => ?_)
  refine lv_istore (lv' := [(5, .int v_19), (0, .ref (ad G 715)), (1, .ref (cy G (20 + 3))), (2, .int a), (3, .int b), (4, .int c_)]) hx hb dX7_change_23 hl (by decide) rfl (fun ls_20 hl_21 => ?_)
  refine lv_iload hx hb dX7_change_25 (lv_at hl_21 0 rfl) ?_
  refine g_cxv (vx_runS (As := [.int v_19]) (rest := []) C.1 (cX7_throwIfRefused_ok l G hst (setRow (setRow X (sp + 1) w_7) 0 w_17) v_19) (va_cwS 1 C.1.2.2.2.2 (gS qw_909 qw_910 qw_71 qw_911) rfl rfl rfl (by decide +kernel) ⟨Nat.le_of_ble_eq_true rfl, Nat.le_of_ble_eq_true rfl⟩) (g_pre C hW_18 hS_15 [.int v_19]) rfl rfl hl_21.1 rfl (lv_room (Nat.le_of_ble_eq_true rfl)) dX7_change_27 ⟨by decide, by decide⟩) hS_15 ?_ ?_
  · intro E9 ce9 q9 Y_23 H9 locs9 hW9 hS9 h_22 h91 h92 h93
    obtain ⟨b_24, hy_25⟩ := h_22
    replace hy_25 := hy_25.symm
    subst hy_25
    exact g_out hex hlk hW9 hS9 (by subst ev_19; subst ew_17; subst ew_7; exact ⟨b_24, rfl⟩) h91 h92 h93 (by decide) (by decide)
  intro Y_27 H_31 locs_32 hW_29 hS_30 h_26
  obtain ⟨b_33, hy_34⟩ := h_26
  replace hy_34 := hy_34.symm
  subst hy_34
  refine lv_aload_n hx hb dX7_change_30 rfl (lv_at hl_21 1 rfl) ?_
  refine gF_history C hW_29 (hwc hwX7) (mc qw_288) dX7_change_31 ?_
  refine g_callv (va_runV (As := []) (rest := []) C.1 (cX2_keep_ok l G (setRow (setRow X (sp + 1) w_7) 0 w_17) sp hsp ((congrFun (rd_in (by decide) (rd_in (by omega) rfl)) _).trans es) cn hcn ((congrFun (rd_in (by decide) (rd_in (by omega) rfl)) _).trans ec)) (cwV 0 C.1.2.2.2.2 (gV qw_983 qw_984 qw_985 qw_75 qw_986) rfl rfl rfl (by decide +kernel) ⟨Nat.le_of_ble_eq_true rfl, Nat.le_of_ble_eq_true rfl⟩) (g_rHist C hW_29 hS_30 []) rfl rfl hl_21.1 rfl (lv_room (Nat.le_of_ble_eq_true rfl)) dX7_change_34 ⟨by decide, by decide⟩) hS_30 (fun Y_36 H_37 locs_38 hW_39 hS_40 h_35 => ?_)
  obtain ⟨w_41, ew_41⟩ : ∃ Z9, Z9 = keepR (X.1 11) sp cn := ⟨_, rfl⟩
  have hW_42 : Wd G (setRow (setRow (setRow X (sp + 1) w_7) 0 w_17) 11 w_41) H_37 := Wd.cast (by rw [h_35, ew_41]; exact (congrArg (fun Z9 => setRow (setRow (setRow X (sp + 1) w_7) 0 w_17) 11 (keepR Z9 sp cn)) (rd_in (by decide) (rd_in (by omega) rfl)))) hW_39
  refine lv_iload hx hb dX7_change_37 (lv_at hl_21 0 rfl) ?_
  refine W.widen (k := 1) (n := 6) (by decide) (by decide) ?_
  refine vx_ret ?_
  exact g_iret C hr hlk hW_42 hS_40 dX7_change_39 (by subst ew_41; subst ev_19; subst ew_17; subst ew_7; exact ⟨b_33, rfl, rfl⟩)

set_option maxHeartbeats 4000000 in
set_option maxRecDepth 100000 in
theorem cX7_change4_ok (l : Launch) (G : GT) (hst : l.stackTraces = false) (X : St) (hi : PInv (X.1 0)) (sp : Nat) (hsp : sp < 9) (es : X.1 11 3 = nI sp) (cn : Nat) (hcn : cn ≤ 8) (ec : X.1 11 4 = nI cn) (a b c_ : Int32) : MetXI l G 1 yX7_change (wsG yX7_change cX7_change 6 (some .int)) (rmk 1 41 424) [.ref (ad G 715), .ref (cy G (20 + 4)), .int a, .int b, .int c_] X (fun res Y => refE (performR 4 (X.1 0) a b c_).1 = none ∧ res = (performR 4 (X.1 0) a b c_).1 ∧ Y = setRow (setRow (setRow X (sp + 1) (cpPlantR (X.1 (sp + 1)) (X.1 0))) 0 (performR 4 (X.1 0) a b c_).2) 11 (keepR (X.1 11) sp cn)) (fun E Y => refE (performR 4 (X.1 0) a b c_).1 = some E ∧ Y = setRow (setRow X (sp + 1) (cpPlantR (X.1 (sp + 1)) (X.1 0))) 0 (performR 4 (X.1 0) a b c_).2) := by
  refine g_metX (cc := cX7_change) (maxL := 6) (ret := (some .int)) (by decide) rfl (Nat.le_of_ble_eq_true rfl) ?_
  intro p e s m below meth c ls C hr hlk hex hW hl
  have hx := C.1.1
  have hb := C.1.2.1
  have hS : va_S (Ab G) s.heap s.heap [] := va_S.rf
  have hl : lv_has ls 6 [(0, .ref (ad G 715)), (1, .ref (cy G (20 + 4))), (2, .int a), (3, .int b), (4, .int c_)] := hl
  refine lv_aload_n hx hb dX7_change_0 rfl (lv_at hl 0 rfl) ?_
  refine gF_history C hW (hwc hwX7) (mc qw_288) dX7_change_1 ?_
  refine lv_aload_n hx hb dX7_change_4 rfl (lv_at hl 0 rfl) ?_
  refine gF_plant C hW (hwc hwX7) (mc qw_287) dX7_change_5 ?_
  refine g_callv (va_runV (As := [.ref (ad G 0)]) (rest := []) C.1 (cX2_note_ok l G X sp hsp es) (cwV 1 C.1.2.2.2.2 (gV qw_804 qw_805 qw_806 qw_75 qw_807) rfl rfl rfl (by decide +kernel) ⟨Nat.le_of_ble_eq_true rfl, Nat.le_of_ble_eq_true rfl⟩) (g_rHist C hW hS [.ref (ad G 0)]) rfl rfl hl.1 rfl (lv_room (Nat.le_of_ble_eq_true rfl)) dX7_change_8 ⟨by decide, by decide⟩) hS (fun Y_2 H_3 locs_4 hW_5 hS_6 h_1 => ?_)
  obtain ⟨w_7, ew_7⟩ : ∃ Z9, Z9 = cpPlantR (X.1 (sp + 1)) (X.1 0) := ⟨_, rfl⟩
  have hW_8 : Wd G (setRow X (sp + 1) w_7) H_3 := Wd.cast (by rw [h_1, ew_7]) hW_5
  refine lv_aload_n hx hb dX7_change_11 rfl (lv_at hl 0 rfl) ?_
  refine gF_plant C hW_8 (hwc hwX7) (mc qw_287) dX7_change_12 ?_
  refine lv_aload_n hx hb dX7_change_15 rfl (lv_at hl 1 rfl) ?_
  refine lv_iload_n hx hb dX7_change_16 rfl (lv_at hl 2 rfl) ?_
  refine lv_iload_n hx hb dX7_change_17 rfl (lv_at hl 3 rfl) ?_
  refine lv_iload hx hb dX7_change_18 (lv_at hl 4 rfl) ?_
  refine g_calli (va_runV (As := [.ref (cy G (20 + 4)), .int a, .int b, .int c_]) (rest := []) C.1 (cX4_perform4_ok l G (setRow X (sp + 1) w_7) 0 h0_11 (show PInv ((setRow X (sp + 1) w_7).1 0) from by rw [show (setRow X (sp + 1) w_7).1 0 = X.1 0 from (rd_in (by omega) rfl)]; exact hi) a b c_) (cwV 4 C.1.2.2.2.2 (gV qw_809 qw_810 qw_811 qw_72 qw_812) rfl rfl rfl (by decide +kernel) ⟨Nat.le_of_ble_eq_true rfl, Nat.le_of_ble_eq_true rfl⟩) (g_rPlant C hW_8 hS_6 h0_11 [.ref (cy G (20 + 4)), .int a, .int b, .int c_]) rfl rfl hl.1 rfl (lv_room (Nat.le_of_ble_eq_true rfl)) dX7_change_20 ⟨by decide, by decide⟩) hS_6 (fun r_10 Y_11 H_12 locs_13 hW_14 hS_15 h_9 => ?_)
  obtain ⟨h_16, h_9⟩ := h_9
  replace h_16 := h_16.trans (congrArg (fun Z9 => (performR 4 Z9 a b c_).1) (rd_in (by omega) rfl))
  subst h_16
  obtain ⟨w_17, ew_17⟩ : ∃ Z9, Z9 = (performR 4 (X.1 0) a b c_).2 := ⟨_, rfl⟩
  have hW_18 : Wd G (setRow (setRow X (sp + 1) w_7) 0 w_17) H_12 := Wd.cast (by rw [h_9, ew_17]; exact (congrArg (fun Z9 => setRow (setRow X (sp + 1) w_7) 0 ((performR 4 Z9 a b c_).2)) (rd_in (by omega) rfl))) hW_14
  refine lv_topi (fun v_19 ev_19 => ?_)
  refine lv_istore (lv' := [(5, .int v_19), (0, .ref (ad G 715)), (1, .ref (cy G (20 + 4))), (2, .int a), (3, .int b), (4, .int c_)]) hx hb dX7_change_23 hl (by decide) rfl (fun ls_20 hl_21 => ?_)
  refine lv_iload hx hb dX7_change_25 (lv_at hl_21 0 rfl) ?_
  refine g_cxv (vx_runS (As := [.int v_19]) (rest := []) C.1 (cX7_throwIfRefused_ok l G hst (setRow (setRow X (sp + 1) w_7) 0 w_17) v_19) (va_cwS 1 C.1.2.2.2.2 (gS qw_909 qw_910 qw_71 qw_911) rfl rfl rfl (by decide +kernel) ⟨Nat.le_of_ble_eq_true rfl, Nat.le_of_ble_eq_true rfl⟩) (g_pre C hW_18 hS_15 [.int v_19]) rfl rfl hl_21.1 rfl (lv_room (Nat.le_of_ble_eq_true rfl)) dX7_change_27 ⟨by decide, by decide⟩) hS_15 ?_ ?_
  · intro E9 ce9 q9 Y_23 H9 locs9 hW9 hS9 h_22 h91 h92 h93
    obtain ⟨b_24, hy_25⟩ := h_22
    replace hy_25 := hy_25.symm
    subst hy_25
    exact g_out hex hlk hW9 hS9 (by subst ev_19; subst ew_17; subst ew_7; exact ⟨b_24, rfl⟩) h91 h92 h93 (by decide) (by decide)
  intro Y_27 H_31 locs_32 hW_29 hS_30 h_26
  obtain ⟨b_33, hy_34⟩ := h_26
  replace hy_34 := hy_34.symm
  subst hy_34
  refine lv_aload_n hx hb dX7_change_30 rfl (lv_at hl_21 1 rfl) ?_
  refine gF_history C hW_29 (hwc hwX7) (mc qw_288) dX7_change_31 ?_
  refine g_callv (va_runV (As := []) (rest := []) C.1 (cX2_keep_ok l G (setRow (setRow X (sp + 1) w_7) 0 w_17) sp hsp ((congrFun (rd_in (by decide) (rd_in (by omega) rfl)) _).trans es) cn hcn ((congrFun (rd_in (by decide) (rd_in (by omega) rfl)) _).trans ec)) (cwV 0 C.1.2.2.2.2 (gV qw_983 qw_984 qw_985 qw_75 qw_986) rfl rfl rfl (by decide +kernel) ⟨Nat.le_of_ble_eq_true rfl, Nat.le_of_ble_eq_true rfl⟩) (g_rHist C hW_29 hS_30 []) rfl rfl hl_21.1 rfl (lv_room (Nat.le_of_ble_eq_true rfl)) dX7_change_34 ⟨by decide, by decide⟩) hS_30 (fun Y_36 H_37 locs_38 hW_39 hS_40 h_35 => ?_)
  obtain ⟨w_41, ew_41⟩ : ∃ Z9, Z9 = keepR (X.1 11) sp cn := ⟨_, rfl⟩
  have hW_42 : Wd G (setRow (setRow (setRow X (sp + 1) w_7) 0 w_17) 11 w_41) H_37 := Wd.cast (by rw [h_35, ew_41]; exact (congrArg (fun Z9 => setRow (setRow (setRow X (sp + 1) w_7) 0 w_17) 11 (keepR Z9 sp cn)) (rd_in (by decide) (rd_in (by omega) rfl)))) hW_39
  refine lv_iload hx hb dX7_change_37 (lv_at hl_21 0 rfl) ?_
  refine W.widen (k := 1) (n := 6) (by decide) (by decide) ?_
  refine vx_ret ?_
  exact g_iret C hr hlk hW_42 hS_40 dX7_change_39 (by subst ew_41; subst ev_19; subst ew_17; subst ew_7; exact ⟨b_33, rfl, rfl⟩)

set_option maxHeartbeats 4000000 in
set_option maxRecDepth 100000 in
theorem cX7_change5_ok (l : Launch) (G : GT) (hst : l.stackTraces = false) (X : St) (hi : PInv (X.1 0)) (sp : Nat) (hsp : sp < 9) (es : X.1 11 3 = nI sp) (cn : Nat) (hcn : cn ≤ 8) (ec : X.1 11 4 = nI cn) (a b c_ : Int32) : MetXI l G 1 yX7_change (wsG yX7_change cX7_change 6 (some .int)) (rmk 1 41 424) [.ref (ad G 715), .ref (cy G (20 + 5)), .int a, .int b, .int c_] X (fun res Y => refE (performR 5 (X.1 0) a b c_).1 = none ∧ res = (performR 5 (X.1 0) a b c_).1 ∧ Y = setRow (setRow (setRow X (sp + 1) (cpPlantR (X.1 (sp + 1)) (X.1 0))) 0 (performR 5 (X.1 0) a b c_).2) 11 (keepR (X.1 11) sp cn)) (fun E Y => refE (performR 5 (X.1 0) a b c_).1 = some E ∧ Y = setRow (setRow X (sp + 1) (cpPlantR (X.1 (sp + 1)) (X.1 0))) 0 (performR 5 (X.1 0) a b c_).2) := by
  refine g_metX (cc := cX7_change) (maxL := 6) (ret := (some .int)) (by decide) rfl (Nat.le_of_ble_eq_true rfl) ?_
  intro p e s m below meth c ls C hr hlk hex hW hl
  have hx := C.1.1
  have hb := C.1.2.1
  have hS : va_S (Ab G) s.heap s.heap [] := va_S.rf
  have hl : lv_has ls 6 [(0, .ref (ad G 715)), (1, .ref (cy G (20 + 5))), (2, .int a), (3, .int b), (4, .int c_)] := hl
  refine lv_aload_n hx hb dX7_change_0 rfl (lv_at hl 0 rfl) ?_
  refine gF_history C hW (hwc hwX7) (mc qw_288) dX7_change_1 ?_
  refine lv_aload_n hx hb dX7_change_4 rfl (lv_at hl 0 rfl) ?_
  refine gF_plant C hW (hwc hwX7) (mc qw_287) dX7_change_5 ?_
  refine g_callv (va_runV (As := [.ref (ad G 0)]) (rest := []) C.1 (cX2_note_ok l G X sp hsp es) (cwV 1 C.1.2.2.2.2 (gV qw_804 qw_805 qw_806 qw_75 qw_807) rfl rfl rfl (by decide +kernel) ⟨Nat.le_of_ble_eq_true rfl, Nat.le_of_ble_eq_true rfl⟩) (g_rHist C hW hS [.ref (ad G 0)]) rfl rfl hl.1 rfl (lv_room (Nat.le_of_ble_eq_true rfl)) dX7_change_8 ⟨by decide, by decide⟩) hS (fun Y_2 H_3 locs_4 hW_5 hS_6 h_1 => ?_)
  obtain ⟨w_7, ew_7⟩ : ∃ Z9, Z9 = cpPlantR (X.1 (sp + 1)) (X.1 0) := ⟨_, rfl⟩
  have hW_8 : Wd G (setRow X (sp + 1) w_7) H_3 := Wd.cast (by rw [h_1, ew_7]) hW_5
  refine lv_aload_n hx hb dX7_change_11 rfl (lv_at hl 0 rfl) ?_
  refine gF_plant C hW_8 (hwc hwX7) (mc qw_287) dX7_change_12 ?_
  refine lv_aload_n hx hb dX7_change_15 rfl (lv_at hl 1 rfl) ?_
  refine lv_iload_n hx hb dX7_change_16 rfl (lv_at hl 2 rfl) ?_
  refine lv_iload_n hx hb dX7_change_17 rfl (lv_at hl 3 rfl) ?_
  refine lv_iload hx hb dX7_change_18 (lv_at hl 4 rfl) ?_
  refine g_calli (va_runV (As := [.ref (cy G (20 + 5)), .int a, .int b, .int c_]) (rest := []) C.1 (cX4_perform5_ok l G (setRow X (sp + 1) w_7) 0 h0_11 (show PInv ((setRow X (sp + 1) w_7).1 0) from by rw [show (setRow X (sp + 1) w_7).1 0 = X.1 0 from (rd_in (by omega) rfl)]; exact hi) a b c_) (cwV 4 C.1.2.2.2.2 (gV qw_809 qw_810 qw_811 qw_72 qw_812) rfl rfl rfl (by decide +kernel) ⟨Nat.le_of_ble_eq_true rfl, Nat.le_of_ble_eq_true rfl⟩) (g_rPlant C hW_8 hS_6 h0_11 [.ref (cy G (20 + 5)), .int a, .int b, .int c_]) rfl rfl hl.1 rfl (lv_room (Nat.le_of_ble_eq_true rfl)) dX7_change_20 ⟨by decide, by decide⟩) hS_6 (fun r_10 Y_11 H_12 locs_13 hW_14 hS_15 h_9 => ?_)
  obtain ⟨h_16, h_9⟩ := h_9
  replace h_16 := h_16.trans (congrArg (fun Z9 => (performR 5 Z9 a b c_).1) (rd_in (by omega) rfl))
  subst h_16
  obtain ⟨w_17, ew_17⟩ : ∃ Z9, Z9 = (performR 5 (X.1 0) a b c_).2 := ⟨_, rfl⟩
  have hW_18 : Wd G (setRow (setRow X (sp + 1) w_7) 0 w_17) H_12 := Wd.cast (by rw [h_9, ew_17]; exact (congrArg (fun Z9 => setRow (setRow X (sp + 1) w_7) 0 ((performR 5 Z9 a b c_).2)) (rd_in (by omega) rfl))) hW_14
  refine lv_topi (fun v_19 ev_19 => ?_)
  refine lv_istore (lv' := [(5, .int v_19), (0, .ref (ad G 715)), (1, .ref (cy G (20 + 5))), (2, .int a), (3, .int b), (4, .int c_)]) hx hb dX7_change_23 hl (by decide) rfl (fun ls_20 hl_21 => ?_)
  refine lv_iload hx hb dX7_change_25 (lv_at hl_21 0 rfl) ?_
  refine g_cxv (vx_runS (As := [.int v_19]) (rest := []) C.1 (cX7_throwIfRefused_ok l G hst (setRow (setRow X (sp + 1) w_7) 0 w_17) v_19) (va_cwS 1 C.1.2.2.2.2 (gS qw_909 qw_910 qw_71 qw_911) rfl rfl rfl (by decide +kernel) ⟨Nat.le_of_ble_eq_true rfl, Nat.le_of_ble_eq_true rfl⟩) (g_pre C hW_18 hS_15 [.int v_19]) rfl rfl hl_21.1 rfl (lv_room (Nat.le_of_ble_eq_true rfl)) dX7_change_27 ⟨by decide, by decide⟩) hS_15 ?_ ?_
  · intro E9 ce9 q9 Y_23 H9 locs9 hW9 hS9 h_22 h91 h92 h93
    obtain ⟨b_24, hy_25⟩ := h_22
    replace hy_25 := hy_25.symm
    subst hy_25
    exact g_out hex hlk hW9 hS9 (by subst ev_19; subst ew_17; subst ew_7; exact ⟨b_24, rfl⟩) h91 h92 h93 (by decide) (by decide)
  intro Y_27 H_31 locs_32 hW_29 hS_30 h_26
  obtain ⟨b_33, hy_34⟩ := h_26
  replace hy_34 := hy_34.symm
  subst hy_34
  refine lv_aload_n hx hb dX7_change_30 rfl (lv_at hl_21 1 rfl) ?_
  refine gF_history C hW_29 (hwc hwX7) (mc qw_288) dX7_change_31 ?_
  refine g_callv (va_runV (As := []) (rest := []) C.1 (cX2_keep_ok l G (setRow (setRow X (sp + 1) w_7) 0 w_17) sp hsp ((congrFun (rd_in (by decide) (rd_in (by omega) rfl)) _).trans es) cn hcn ((congrFun (rd_in (by decide) (rd_in (by omega) rfl)) _).trans ec)) (cwV 0 C.1.2.2.2.2 (gV qw_983 qw_984 qw_985 qw_75 qw_986) rfl rfl rfl (by decide +kernel) ⟨Nat.le_of_ble_eq_true rfl, Nat.le_of_ble_eq_true rfl⟩) (g_rHist C hW_29 hS_30 []) rfl rfl hl_21.1 rfl (lv_room (Nat.le_of_ble_eq_true rfl)) dX7_change_34 ⟨by decide, by decide⟩) hS_30 (fun Y_36 H_37 locs_38 hW_39 hS_40 h_35 => ?_)
  obtain ⟨w_41, ew_41⟩ : ∃ Z9, Z9 = keepR (X.1 11) sp cn := ⟨_, rfl⟩
  have hW_42 : Wd G (setRow (setRow (setRow X (sp + 1) w_7) 0 w_17) 11 w_41) H_37 := Wd.cast (by rw [h_35, ew_41]; exact (congrArg (fun Z9 => setRow (setRow (setRow X (sp + 1) w_7) 0 w_17) 11 (keepR Z9 sp cn)) (rd_in (by decide) (rd_in (by omega) rfl)))) hW_39
  refine lv_iload hx hb dX7_change_37 (lv_at hl_21 0 rfl) ?_
  refine W.widen (k := 1) (n := 6) (by decide) (by decide) ?_
  refine vx_ret ?_
  exact g_iret C hr hlk hW_42 hS_40 dX7_change_39 (by subst ew_41; subst ev_19; subst ew_17; subst ew_7; exact ⟨b_33, rfl, rfl⟩)

set_option maxHeartbeats 4000000 in
set_option maxRecDepth 100000 in
theorem cX7_change6_ok (l : Launch) (G : GT) (hst : l.stackTraces = false) (X : St) (hi : PInv (X.1 0)) (sp : Nat) (hsp : sp < 9) (es : X.1 11 3 = nI sp) (cn : Nat) (hcn : cn ≤ 8) (ec : X.1 11 4 = nI cn) (a b c_ : Int32) : MetXI l G 1 yX7_change (wsG yX7_change cX7_change 6 (some .int)) (rmk 1 41 424) [.ref (ad G 715), .ref (cy G (20 + 6)), .int a, .int b, .int c_] X (fun res Y => refE (performR 6 (X.1 0) a b c_).1 = none ∧ res = (performR 6 (X.1 0) a b c_).1 ∧ Y = setRow (setRow (setRow X (sp + 1) (cpPlantR (X.1 (sp + 1)) (X.1 0))) 0 (performR 6 (X.1 0) a b c_).2) 11 (keepR (X.1 11) sp cn)) (fun E Y => refE (performR 6 (X.1 0) a b c_).1 = some E ∧ Y = setRow (setRow X (sp + 1) (cpPlantR (X.1 (sp + 1)) (X.1 0))) 0 (performR 6 (X.1 0) a b c_).2) := by
  refine g_metX (cc := cX7_change) (maxL := 6) (ret := (some .int)) (by decide) rfl (Nat.le_of_ble_eq_true rfl) ?_
  intro p e s m below meth c ls C hr hlk hex hW hl
  have hx := C.1.1
  have hb := C.1.2.1
  have hS : va_S (Ab G) s.heap s.heap [] := va_S.rf
  have hl : lv_has ls 6 [(0, .ref (ad G 715)), (1, .ref (cy G (20 + 6))), (2, .int a), (3, .int b), (4, .int c_)] := hl
  refine lv_aload_n hx hb dX7_change_0 rfl (lv_at hl 0 rfl) ?_
  refine gF_history C hW (hwc hwX7) (mc qw_288) dX7_change_1 ?_
  refine lv_aload_n hx hb dX7_change_4 rfl (lv_at hl 0 rfl) ?_
  refine gF_plant C hW (hwc hwX7) (mc qw_287) dX7_change_5 ?_
  refine g_callv (va_runV (As := [.ref (ad G 0)]) (rest := []) C.1 (cX2_note_ok l G X sp hsp es) (cwV 1 C.1.2.2.2.2 (gV qw_804 qw_805 qw_806 qw_75 qw_807) rfl rfl rfl (by decide +kernel) ⟨Nat.le_of_ble_eq_true rfl, Nat.le_of_ble_eq_true rfl⟩) (g_rHist C hW hS [.ref (ad G 0)]) rfl rfl hl.1 rfl (lv_room (Nat.le_of_ble_eq_true rfl)) dX7_change_8 ⟨by decide, by decide⟩) hS (fun Y_2 H_3 locs_4 hW_5 hS_6 h_1 => ?_)
  obtain ⟨w_7, ew_7⟩ : ∃ Z9, Z9 = cpPlantR (X.1 (sp + 1)) (X.1 0) := ⟨_, rfl⟩
  have hW_8 : Wd G (setRow X (sp + 1) w_7) H_3 := Wd.cast (by rw [h_1, ew_7]) hW_5
  refine lv_aload_n hx hb dX7_change_11 rfl (lv_at hl 0 rfl) ?_
  refine gF_plant C hW_8 (hwc hwX7) (mc qw_287) dX7_change_12 ?_
  refine lv_aload_n hx hb dX7_change_15 rfl (lv_at hl 1 rfl) ?_
  refine lv_iload_n hx hb dX7_change_16 rfl (lv_at hl 2 rfl) ?_
  refine lv_iload_n hx hb dX7_change_17 rfl (lv_at hl 3 rfl) ?_
  refine lv_iload hx hb dX7_change_18 (lv_at hl 4 rfl) ?_
  refine g_calli (va_runV (As := [.ref (cy G (20 + 6)), .int a, .int b, .int c_]) (rest := []) C.1 (cX4_perform6_ok l G (setRow X (sp + 1) w_7) 0 h0_11 (show PInv ((setRow X (sp + 1) w_7).1 0) from by rw [show (setRow X (sp + 1) w_7).1 0 = X.1 0 from (rd_in (by omega) rfl)]; exact hi) a b c_) (cwV 4 C.1.2.2.2.2 (gV qw_809 qw_810 qw_811 qw_72 qw_812) rfl rfl rfl (by decide +kernel) ⟨Nat.le_of_ble_eq_true rfl, Nat.le_of_ble_eq_true rfl⟩) (g_rPlant C hW_8 hS_6 h0_11 [.ref (cy G (20 + 6)), .int a, .int b, .int c_]) rfl rfl hl.1 rfl (lv_room (Nat.le_of_ble_eq_true rfl)) dX7_change_20 ⟨by decide, by decide⟩) hS_6 (fun r_10 Y_11 H_12 locs_13 hW_14 hS_15 h_9 => ?_)
  obtain ⟨h_16, h_9⟩ := h_9
  replace h_16 := h_16.trans (congrArg (fun Z9 => (performR 6 Z9 a b c_).1) (rd_in (by omega) rfl))
  subst h_16
  obtain ⟨w_17, ew_17⟩ : ∃ Z9, Z9 = (performR 6 (X.1 0) a b c_).2 := ⟨_, rfl⟩
  have hW_18 : Wd G (setRow (setRow X (sp + 1) w_7) 0 w_17) H_12 := Wd.cast (by rw [h_9, ew_17]; exact (congrArg (fun Z9 => setRow (setRow X (sp + 1) w_7) 0 ((performR 6 Z9 a b c_).2)) (rd_in (by omega) rfl))) hW_14
  refine lv_topi (fun v_19 ev_19 => ?_)
  refine lv_istore (lv' := [(5, .int v_19), (0, .ref (ad G 715)), (1, .ref (cy G (20 + 6))), (2, .int a), (3, .int b), (4, .int c_)]) hx hb dX7_change_23 hl (by decide) rfl (fun ls_20 hl_21 => ?_)
  refine lv_iload hx hb dX7_change_25 (lv_at hl_21 0 rfl) ?_
  refine g_cxv (vx_runS (As := [.int v_19]) (rest := []) C.1 (cX7_throwIfRefused_ok l G hst (setRow (setRow X (sp + 1) w_7) 0 w_17) v_19) (va_cwS 1 C.1.2.2.2.2 (gS qw_909 qw_910 qw_71 qw_911) rfl rfl rfl (by decide +kernel) ⟨Nat.le_of_ble_eq_true rfl, Nat.le_of_ble_eq_true rfl⟩) (g_pre C hW_18 hS_15 [.int v_19]) rfl rfl hl_21.1 rfl (lv_room (Nat.le_of_ble_eq_true rfl)) dX7_change_27 ⟨by decide, by decide⟩) hS_15 ?_ ?_
  · intro E9 ce9 q9 Y_23 H9 locs9 hW9 hS9 h_22 h91 h92 h93
    obtain ⟨b_24, hy_25⟩ := h_22
    replace hy_25 := hy_25.symm
    subst hy_25
    exact g_out hex hlk hW9 hS9 (by subst ev_19; subst ew_17; subst ew_7; exact ⟨b_24, rfl⟩) h91 h92 h93 (by decide) (by decide)
  intro Y_27 H_31 locs_32 hW_29 hS_30 h_26
  obtain ⟨b_33, hy_34⟩ := h_26
  replace hy_34 := hy_34.symm
  subst hy_34
  refine lv_aload_n hx hb dX7_change_30 rfl (lv_at hl_21 1 rfl) ?_
  refine gF_history C hW_29 (hwc hwX7) (mc qw_288) dX7_change_31 ?_
  refine g_callv (va_runV (As := []) (rest := []) C.1 (cX2_keep_ok l G (setRow (setRow X (sp + 1) w_7) 0 w_17) sp hsp ((congrFun (rd_in (by decide) (rd_in (by omega) rfl)) _).trans es) cn hcn ((congrFun (rd_in (by decide) (rd_in (by omega) rfl)) _).trans ec)) (cwV 0 C.1.2.2.2.2 (gV qw_983 qw_984 qw_985 qw_75 qw_986) rfl rfl rfl (by decide +kernel) ⟨Nat.le_of_ble_eq_true rfl, Nat.le_of_ble_eq_true rfl⟩) (g_rHist C hW_29 hS_30 []) rfl rfl hl_21.1 rfl (lv_room (Nat.le_of_ble_eq_true rfl)) dX7_change_34 ⟨by decide, by decide⟩) hS_30 (fun Y_36 H_37 locs_38 hW_39 hS_40 h_35 => ?_)
  obtain ⟨w_41, ew_41⟩ : ∃ Z9, Z9 = keepR (X.1 11) sp cn := ⟨_, rfl⟩
  have hW_42 : Wd G (setRow (setRow (setRow X (sp + 1) w_7) 0 w_17) 11 w_41) H_37 := Wd.cast (by rw [h_35, ew_41]; exact (congrArg (fun Z9 => setRow (setRow (setRow X (sp + 1) w_7) 0 w_17) 11 (keepR Z9 sp cn)) (rd_in (by decide) (rd_in (by omega) rfl)))) hW_39
  refine lv_iload hx hb dX7_change_37 (lv_at hl_21 0 rfl) ?_
  refine W.widen (k := 1) (n := 6) (by decide) (by decide) ?_
  refine vx_ret ?_
  exact g_iret C hr hlk hW_42 hS_40 dX7_change_39 (by subst ew_41; subst ev_19; subst ew_17; subst ew_7; exact ⟨b_33, rfl, rfl⟩)

set_option maxHeartbeats 4000000 in
set_option maxRecDepth 100000 in
theorem cX7_change7_ok (l : Launch) (G : GT) (hst : l.stackTraces = false) (X : St) (hi : PInv (X.1 0)) (sp : Nat) (hsp : sp < 9) (es : X.1 11 3 = nI sp) (cn : Nat) (hcn : cn ≤ 8) (ec : X.1 11 4 = nI cn) (a b c_ : Int32) : MetXI l G 1 yX7_change (wsG yX7_change cX7_change 6 (some .int)) (rmk 1 41 424) [.ref (ad G 715), .ref (cy G (20 + 7)), .int a, .int b, .int c_] X (fun res Y => refE (performR 7 (X.1 0) a b c_).1 = none ∧ res = (performR 7 (X.1 0) a b c_).1 ∧ Y = setRow (setRow (setRow X (sp + 1) (cpPlantR (X.1 (sp + 1)) (X.1 0))) 0 (performR 7 (X.1 0) a b c_).2) 11 (keepR (X.1 11) sp cn)) (fun E Y => refE (performR 7 (X.1 0) a b c_).1 = some E ∧ Y = setRow (setRow X (sp + 1) (cpPlantR (X.1 (sp + 1)) (X.1 0))) 0 (performR 7 (X.1 0) a b c_).2) := by
  refine g_metX (cc := cX7_change) (maxL := 6) (ret := (some .int)) (by decide) rfl (Nat.le_of_ble_eq_true rfl) ?_
  intro p e s m below meth c ls C hr hlk hex hW hl
  have hx := C.1.1
  have hb := C.1.2.1
  have hS : va_S (Ab G) s.heap s.heap [] := va_S.rf
  have hl : lv_has ls 6 [(0, .ref (ad G 715)), (1, .ref (cy G (20 + 7))), (2, .int a), (3, .int b), (4, .int c_)] := hl
  refine lv_aload_n hx hb dX7_change_0 rfl (lv_at hl 0 rfl) ?_
  refine gF_history C hW (hwc hwX7) (mc qw_288) dX7_change_1 ?_
  refine lv_aload_n hx hb dX7_change_4 rfl (lv_at hl 0 rfl) ?_
  refine gF_plant C hW (hwc hwX7) (mc qw_287) dX7_change_5 ?_
  refine g_callv (va_runV (As := [.ref (ad G 0)]) (rest := []) C.1 (cX2_note_ok l G X sp hsp es) (cwV 1 C.1.2.2.2.2 (gV qw_804 qw_805 qw_806 qw_75 qw_807) rfl rfl rfl (by decide +kernel) ⟨Nat.le_of_ble_eq_true rfl, Nat.le_of_ble_eq_true rfl⟩) (g_rHist C hW hS [.ref (ad G 0)]) rfl rfl hl.1 rfl (lv_room (Nat.le_of_ble_eq_true rfl)) dX7_change_8 ⟨by decide, by decide⟩) hS (fun Y_2 H_3 locs_4 hW_5 hS_6 h_1 => ?_)
  obtain ⟨w_7, ew_7⟩ : ∃ Z9, Z9 = cpPlantR (X.1 (sp + 1)) (X.1 0) := ⟨_, rfl⟩
  have hW_8 : Wd G (setRow X (sp + 1) w_7) H_3 := Wd.cast (by rw [h_1, ew_7]) hW_5
  refine lv_aload_n hx hb dX7_change_11 rfl (lv_at hl 0 rfl) ?_
  refine gF_plant C hW_8 (hwc hwX7) (mc qw_287) dX7_change_12 ?_
  refine lv_aload_n hx hb dX7_change_15 rfl (lv_at hl 1 rfl) ?_
  refine lv_iload_n hx hb dX7_change_16 rfl (lv_at hl 2 rfl) ?_
  refine lv_iload_n hx hb dX7_change_17 rfl (lv_at hl 3 rfl) ?_
  refine lv_iload hx hb dX7_change_18 (lv_at hl 4 rfl) ?_
  refine g_calli (va_runV (As := [.ref (cy G (20 + 7)), .int a, .int b, .int c_]) (rest := []) C.1 (cX4_perform7_ok l G (setRow X (sp + 1) w_7) 0 h0_11 (show PInv ((setRow X (sp + 1) w_7).1 0) from by rw [show (setRow X (sp + 1) w_7).1 0 = X.1 0 from (rd_in (by omega) rfl)]; exact hi) a b c_) (cwV 4 C.1.2.2.2.2 (gV qw_809 qw_810 qw_811 qw_72 qw_812) rfl rfl rfl (by decide +kernel) ⟨Nat.le_of_ble_eq_true rfl, Nat.le_of_ble_eq_true rfl⟩) (g_rPlant C hW_8 hS_6 h0_11 [.ref (cy G (20 + 7)), .int a, .int b, .int c_]) rfl rfl hl.1 rfl (lv_room (Nat.le_of_ble_eq_true rfl)) dX7_change_20 ⟨by decide, by decide⟩) hS_6 (fun r_10 Y_11 H_12 locs_13 hW_14 hS_15 h_9 => ?_)
  obtain ⟨h_16, h_9⟩ := h_9
  replace h_16 := h_16.trans (congrArg (fun Z9 => (performR 7 Z9 a b c_).1) (rd_in (by omega) rfl))
  subst h_16
  obtain ⟨w_17, ew_17⟩ : ∃ Z9, Z9 = (performR 7 (X.1 0) a b c_).2 := ⟨_, rfl⟩
  have hW_18 : Wd G (setRow (setRow X (sp + 1) w_7) 0 w_17) H_12 := Wd.cast (by rw [h_9, ew_17]; exact (congrArg (fun Z9 => setRow (setRow X (sp + 1) w_7) 0 ((performR 7 Z9 a b c_).2)) (rd_in (by omega) rfl))) hW_14
  refine lv_topi (fun v_19 ev_19 => ?_)
  refine lv_istore (lv' := [(5, .int v_19), (0, .ref (ad G 715)), (1, .ref (cy G (20 + 7))), (2, .int a), (3, .int b), (4, .int c_)]) hx hb dX7_change_23 hl (by decide) rfl (fun ls_20 hl_21 => ?_)
  refine lv_iload hx hb dX7_change_25 (lv_at hl_21 0 rfl) ?_
  refine g_cxv (vx_runS (As := [.int v_19]) (rest := []) C.1 (cX7_throwIfRefused_ok l G hst (setRow (setRow X (sp + 1) w_7) 0 w_17) v_19) (va_cwS 1 C.1.2.2.2.2 (gS qw_909 qw_910 qw_71 qw_911) rfl rfl rfl (by decide +kernel) ⟨Nat.le_of_ble_eq_true rfl, Nat.le_of_ble_eq_true rfl⟩) (g_pre C hW_18 hS_15 [.int v_19]) rfl rfl hl_21.1 rfl (lv_room (Nat.le_of_ble_eq_true rfl)) dX7_change_27 ⟨by decide, by decide⟩) hS_15 ?_ ?_
  · intro E9 ce9 q9 Y_23 H9 locs9 hW9 hS9 h_22 h91 h92 h93
    obtain ⟨b_24, hy_25⟩ := h_22
    replace hy_25 := hy_25.symm
    subst hy_25
    exact g_out hex hlk hW9 hS9 (by subst ev_19; subst ew_17; subst ew_7; exact ⟨b_24, rfl⟩) h91 h92 h93 (by decide) (by decide)
  intro Y_27 H_31 locs_32 hW_29 hS_30 h_26
  obtain ⟨b_33, hy_34⟩ := h_26
  replace hy_34 := hy_34.symm
  subst hy_34
  refine lv_aload_n hx hb dX7_change_30 rfl (lv_at hl_21 1 rfl) ?_
  refine gF_history C hW_29 (hwc hwX7) (mc qw_288) dX7_change_31 ?_
  refine g_callv (va_runV (As := []) (rest := []) C.1 (cX2_keep_ok l G (setRow (setRow X (sp + 1) w_7) 0 w_17) sp hsp ((congrFun (rd_in (by decide) (rd_in (by omega) rfl)) _).trans es) cn hcn ((congrFun (rd_in (by decide) (rd_in (by omega) rfl)) _).trans ec)) (cwV 0 C.1.2.2.2.2 (gV qw_983 qw_984 qw_985 qw_75 qw_986) rfl rfl rfl (by decide +kernel) ⟨Nat.le_of_ble_eq_true rfl, Nat.le_of_ble_eq_true rfl⟩) (g_rHist C hW_29 hS_30 []) rfl rfl hl_21.1 rfl (lv_room (Nat.le_of_ble_eq_true rfl)) dX7_change_34 ⟨by decide, by decide⟩) hS_30 (fun Y_36 H_37 locs_38 hW_39 hS_40 h_35 => ?_)
  obtain ⟨w_41, ew_41⟩ : ∃ Z9, Z9 = keepR (X.1 11) sp cn := ⟨_, rfl⟩
  have hW_42 : Wd G (setRow (setRow (setRow X (sp + 1) w_7) 0 w_17) 11 w_41) H_37 := Wd.cast (by rw [h_35, ew_41]; exact (congrArg (fun Z9 => setRow (setRow (setRow X (sp + 1) w_7) 0 w_17) 11 (keepR Z9 sp cn)) (rd_in (by decide) (rd_in (by omega) rfl)))) hW_39
  refine lv_iload hx hb dX7_change_37 (lv_at hl_21 0 rfl) ?_
  refine W.widen (k := 1) (n := 6) (by decide) (by decide) ?_
  refine vx_ret ?_
  exact g_iret C hr hlk hW_42 hS_40 dX7_change_39 (by subst ew_41; subst ev_19; subst ew_17; subst ew_7; exact ⟨b_33, rfl, rfl⟩)

set_option maxHeartbeats 4000000 in
set_option maxRecDepth 100000 in
theorem cX7_change8_ok (l : Launch) (G : GT) (hst : l.stackTraces = false) (X : St) (hi : PInv (X.1 0)) (sp : Nat) (hsp : sp < 9) (es : X.1 11 3 = nI sp) (cn : Nat) (hcn : cn ≤ 8) (ec : X.1 11 4 = nI cn) (a b c_ : Int32) : MetXI l G 1 yX7_change (wsG yX7_change cX7_change 6 (some .int)) (rmk 1 41 424) [.ref (ad G 715), .ref (cy G (20 + 8)), .int a, .int b, .int c_] X (fun res Y => refE (performR 8 (X.1 0) a b c_).1 = none ∧ res = (performR 8 (X.1 0) a b c_).1 ∧ Y = setRow (setRow (setRow X (sp + 1) (cpPlantR (X.1 (sp + 1)) (X.1 0))) 0 (performR 8 (X.1 0) a b c_).2) 11 (keepR (X.1 11) sp cn)) (fun E Y => refE (performR 8 (X.1 0) a b c_).1 = some E ∧ Y = setRow (setRow X (sp + 1) (cpPlantR (X.1 (sp + 1)) (X.1 0))) 0 (performR 8 (X.1 0) a b c_).2) := by
  refine g_metX (cc := cX7_change) (maxL := 6) (ret := (some .int)) (by decide) rfl (Nat.le_of_ble_eq_true rfl) ?_
  intro p e s m below meth c ls C hr hlk hex hW hl
  have hx := C.1.1
  have hb := C.1.2.1
  have hS : va_S (Ab G) s.heap s.heap [] := va_S.rf
  have hl : lv_has ls 6 [(0, .ref (ad G 715)), (1, .ref (cy G (20 + 8))), (2, .int a), (3, .int b), (4, .int c_)] := hl
  refine lv_aload_n hx hb dX7_change_0 rfl (lv_at hl 0 rfl) ?_
  refine gF_history C hW (hwc hwX7) (mc qw_288) dX7_change_1 ?_
  refine lv_aload_n hx hb dX7_change_4 rfl (lv_at hl 0 rfl) ?_
  refine gF_plant C hW (hwc hwX7) (mc qw_287) dX7_change_5 ?_
  refine g_callv (va_runV (As := [.ref (ad G 0)]) (rest := []) C.1 (cX2_note_ok l G X sp hsp es) (cwV 1 C.1.2.2.2.2 (gV qw_804 qw_805 qw_806 qw_75 qw_807) rfl rfl rfl (by decide +kernel) ⟨Nat.le_of_ble_eq_true rfl, Nat.le_of_ble_eq_true rfl⟩) (g_rHist C hW hS [.ref (ad G 0)]) rfl rfl hl.1 rfl (lv_room (Nat.le_of_ble_eq_true rfl)) dX7_change_8 ⟨by decide, by decide⟩) hS (fun Y_2 H_3 locs_4 hW_5 hS_6 h_1 => ?_)
  obtain ⟨w_7, ew_7⟩ : ∃ Z9, Z9 = cpPlantR (X.1 (sp + 1)) (X.1 0) := ⟨_, rfl⟩
  have hW_8 : Wd G (setRow X (sp + 1) w_7) H_3 := Wd.cast (by rw [h_1, ew_7]) hW_5
  refine lv_aload_n hx hb dX7_change_11 rfl (lv_at hl 0 rfl) ?_
  refine gF_plant C hW_8 (hwc hwX7) (mc qw_287) dX7_change_12 ?_
  refine lv_aload_n hx hb dX7_change_15 rfl (lv_at hl 1 rfl) ?_
  refine lv_iload_n hx hb dX7_change_16 rfl (lv_at hl 2 rfl) ?_
  refine lv_iload_n hx hb dX7_change_17 rfl (lv_at hl 3 rfl) ?_
  refine lv_iload hx hb dX7_change_18 (lv_at hl 4 rfl) ?_
  refine g_calli (va_runV (As := [.ref (cy G (20 + 8)), .int a, .int b, .int c_]) (rest := []) C.1 (cX4_perform8_ok l G (setRow X (sp + 1) w_7) 0 h0_11 (show PInv ((setRow X (sp + 1) w_7).1 0) from by rw [show (setRow X (sp + 1) w_7).1 0 = X.1 0 from (rd_in (by omega) rfl)]; exact hi) a b c_) (cwV 4 C.1.2.2.2.2 (gV qw_809 qw_810 qw_811 qw_72 qw_812) rfl rfl rfl (by decide +kernel) ⟨Nat.le_of_ble_eq_true rfl, Nat.le_of_ble_eq_true rfl⟩) (g_rPlant C hW_8 hS_6 h0_11 [.ref (cy G (20 + 8)), .int a, .int b, .int c_]) rfl rfl hl.1 rfl (lv_room (Nat.le_of_ble_eq_true rfl)) dX7_change_20 ⟨by decide, by decide⟩) hS_6 (fun r_10 Y_11 H_12 locs_13 hW_14 hS_15 h_9 => ?_)
  obtain ⟨h_16, h_9⟩ := h_9
  replace h_16 := h_16.trans (congrArg (fun Z9 => (performR 8 Z9 a b c_).1) (rd_in (by omega) rfl))
  subst h_16
  obtain ⟨w_17, ew_17⟩ : ∃ Z9, Z9 = (performR 8 (X.1 0) a b c_).2 := ⟨_, rfl⟩
  have hW_18 : Wd G (setRow (setRow X (sp + 1) w_7) 0 w_17) H_12 := Wd.cast (by rw [h_9, ew_17]; exact (congrArg (fun Z9 => setRow (setRow X (sp + 1) w_7) 0 ((performR 8 Z9 a b c_).2)) (rd_in (by omega) rfl))) hW_14
  refine lv_topi (fun v_19 ev_19 => ?_)
  refine lv_istore (lv' := [(5, .int v_19), (0, .ref (ad G 715)), (1, .ref (cy G (20 + 8))), (2, .int a), (3, .int b), (4, .int c_)]) hx hb dX7_change_23 hl (by decide) rfl (fun ls_20 hl_21 => ?_)
  refine lv_iload hx hb dX7_change_25 (lv_at hl_21 0 rfl) ?_
  refine g_cxv (vx_runS (As := [.int v_19]) (rest := []) C.1 (cX7_throwIfRefused_ok l G hst (setRow (setRow X (sp + 1) w_7) 0 w_17) v_19) (va_cwS 1 C.1.2.2.2.2 (gS qw_909 qw_910 qw_71 qw_911) rfl rfl rfl (by decide +kernel) ⟨Nat.le_of_ble_eq_true rfl, Nat.le_of_ble_eq_true rfl⟩) (g_pre C hW_18 hS_15 [.int v_19]) rfl rfl hl_21.1 rfl (lv_room (Nat.le_of_ble_eq_true rfl)) dX7_change_27 ⟨by decide, by decide⟩) hS_15 ?_ ?_
  · intro E9 ce9 q9 Y_23 H9 locs9 hW9 hS9 h_22 h91 h92 h93
    obtain ⟨b_24, hy_25⟩ := h_22
    replace hy_25 := hy_25.symm
    subst hy_25
    exact g_out hex hlk hW9 hS9 (by subst ev_19; subst ew_17; subst ew_7; exact ⟨b_24, rfl⟩) h91 h92 h93 (by decide) (by decide)
  intro Y_27 H_31 locs_32 hW_29 hS_30 h_26
  obtain ⟨b_33, hy_34⟩ := h_26
  replace hy_34 := hy_34.symm
  subst hy_34
  refine lv_aload_n hx hb dX7_change_30 rfl (lv_at hl_21 1 rfl) ?_
  refine gF_history C hW_29 (hwc hwX7) (mc qw_288) dX7_change_31 ?_
  refine g_callv (va_runV (As := []) (rest := []) C.1 (cX2_keep_ok l G (setRow (setRow X (sp + 1) w_7) 0 w_17) sp hsp ((congrFun (rd_in (by decide) (rd_in (by omega) rfl)) _).trans es) cn hcn ((congrFun (rd_in (by decide) (rd_in (by omega) rfl)) _).trans ec)) (cwV 0 C.1.2.2.2.2 (gV qw_983 qw_984 qw_985 qw_75 qw_986) rfl rfl rfl (by decide +kernel) ⟨Nat.le_of_ble_eq_true rfl, Nat.le_of_ble_eq_true rfl⟩) (g_rHist C hW_29 hS_30 []) rfl rfl hl_21.1 rfl (lv_room (Nat.le_of_ble_eq_true rfl)) dX7_change_34 ⟨by decide, by decide⟩) hS_30 (fun Y_36 H_37 locs_38 hW_39 hS_40 h_35 => ?_)
  obtain ⟨w_41, ew_41⟩ : ∃ Z9, Z9 = keepR (X.1 11) sp cn := ⟨_, rfl⟩
  have hW_42 : Wd G (setRow (setRow (setRow X (sp + 1) w_7) 0 w_17) 11 w_41) H_37 := Wd.cast (by rw [h_35, ew_41]; exact (congrArg (fun Z9 => setRow (setRow (setRow X (sp + 1) w_7) 0 w_17) 11 (keepR Z9 sp cn)) (rd_in (by decide) (rd_in (by omega) rfl)))) hW_39
  refine lv_iload hx hb dX7_change_37 (lv_at hl_21 0 rfl) ?_
  refine W.widen (k := 1) (n := 6) (by decide) (by decide) ?_
  refine vx_ret ?_
  exact g_iret C hr hlk hW_42 hS_40 dX7_change_39 (by subst ew_41; subst ev_19; subst ew_17; subst ew_7; exact ⟨b_33, rfl, rfl⟩)

set_option maxHeartbeats 4000000 in
set_option maxRecDepth 100000 in
theorem cX7_change9_ok (l : Launch) (G : GT) (hst : l.stackTraces = false) (X : St) (hi : PInv (X.1 0)) (sp : Nat) (hsp : sp < 9) (es : X.1 11 3 = nI sp) (cn : Nat) (hcn : cn ≤ 8) (ec : X.1 11 4 = nI cn) (a b c_ : Int32) : MetXI l G 1 yX7_change (wsG yX7_change cX7_change 6 (some .int)) (rmk 1 41 424) [.ref (ad G 715), .ref (cy G (20 + 9)), .int a, .int b, .int c_] X (fun res Y => refE (performR 9 (X.1 0) a b c_).1 = none ∧ res = (performR 9 (X.1 0) a b c_).1 ∧ Y = setRow (setRow (setRow X (sp + 1) (cpPlantR (X.1 (sp + 1)) (X.1 0))) 0 (performR 9 (X.1 0) a b c_).2) 11 (keepR (X.1 11) sp cn)) (fun E Y => refE (performR 9 (X.1 0) a b c_).1 = some E ∧ Y = setRow (setRow X (sp + 1) (cpPlantR (X.1 (sp + 1)) (X.1 0))) 0 (performR 9 (X.1 0) a b c_).2) := by
  refine g_metX (cc := cX7_change) (maxL := 6) (ret := (some .int)) (by decide) rfl (Nat.le_of_ble_eq_true rfl) ?_
  intro p e s m below meth c ls C hr hlk hex hW hl
  have hx := C.1.1
  have hb := C.1.2.1
  have hS : va_S (Ab G) s.heap s.heap [] := va_S.rf
  have hl : lv_has ls 6 [(0, .ref (ad G 715)), (1, .ref (cy G (20 + 9))), (2, .int a), (3, .int b), (4, .int c_)] := hl
  refine lv_aload_n hx hb dX7_change_0 rfl (lv_at hl 0 rfl) ?_
  refine gF_history C hW (hwc hwX7) (mc qw_288) dX7_change_1 ?_
  refine lv_aload_n hx hb dX7_change_4 rfl (lv_at hl 0 rfl) ?_
  refine gF_plant C hW (hwc hwX7) (mc qw_287) dX7_change_5 ?_
  refine g_callv (va_runV (As := [.ref (ad G 0)]) (rest := []) C.1 (cX2_note_ok l G X sp hsp es) (cwV 1 C.1.2.2.2.2 (gV qw_804 qw_805 qw_806 qw_75 qw_807) rfl rfl rfl (by decide +kernel) ⟨Nat.le_of_ble_eq_true rfl, Nat.le_of_ble_eq_true rfl⟩) (g_rHist C hW hS [.ref (ad G 0)]) rfl rfl hl.1 rfl (lv_room (Nat.le_of_ble_eq_true rfl)) dX7_change_8 ⟨by decide, by decide⟩) hS (fun Y_2 H_3 locs_4 hW_5 hS_6 h_1 => ?_)
  obtain ⟨w_7, ew_7⟩ : ∃ Z9, Z9 = cpPlantR (X.1 (sp + 1)) (X.1 0) := ⟨_, rfl⟩
  have hW_8 : Wd G (setRow X (sp + 1) w_7) H_3 := Wd.cast (by rw [h_1, ew_7]) hW_5
  refine lv_aload_n hx hb dX7_change_11 rfl (lv_at hl 0 rfl) ?_
  refine gF_plant C hW_8 (hwc hwX7) (mc qw_287) dX7_change_12 ?_
  refine lv_aload_n hx hb dX7_change_15 rfl (lv_at hl 1 rfl) ?_
  refine lv_iload_n hx hb dX7_change_16 rfl (lv_at hl 2 rfl) ?_
  refine lv_iload_n hx hb dX7_change_17 rfl (lv_at hl 3 rfl) ?_
  refine lv_iload hx hb dX7_change_18 (lv_at hl 4 rfl) ?_
  refine g_calli (va_runV (As := [.ref (cy G (20 + 9)), .int a, .int b, .int c_]) (rest := []) C.1 (cX4_perform9_ok l G (setRow X (sp + 1) w_7) 0 h0_11 (show PInv ((setRow X (sp + 1) w_7).1 0) from by rw [show (setRow X (sp + 1) w_7).1 0 = X.1 0 from (rd_in (by omega) rfl)]; exact hi) a b c_) (cwV 4 C.1.2.2.2.2 (gV qw_809 qw_810 qw_811 qw_72 qw_812) rfl rfl rfl (by decide +kernel) ⟨Nat.le_of_ble_eq_true rfl, Nat.le_of_ble_eq_true rfl⟩) (g_rPlant C hW_8 hS_6 h0_11 [.ref (cy G (20 + 9)), .int a, .int b, .int c_]) rfl rfl hl.1 rfl (lv_room (Nat.le_of_ble_eq_true rfl)) dX7_change_20 ⟨by decide, by decide⟩) hS_6 (fun r_10 Y_11 H_12 locs_13 hW_14 hS_15 h_9 => ?_)
  obtain ⟨h_16, h_9⟩ := h_9
  replace h_16 := h_16.trans (congrArg (fun Z9 => (performR 9 Z9 a b c_).1) (rd_in (by omega) rfl))
  subst h_16
  obtain ⟨w_17, ew_17⟩ : ∃ Z9, Z9 = (performR 9 (X.1 0) a b c_).2 := ⟨_, rfl⟩
  have hW_18 : Wd G (setRow (setRow X (sp + 1) w_7) 0 w_17) H_12 := Wd.cast (by rw [h_9, ew_17]; exact (congrArg (fun Z9 => setRow (setRow X (sp + 1) w_7) 0 ((performR 9 Z9 a b c_).2)) (rd_in (by omega) rfl))) hW_14
  refine lv_topi (fun v_19 ev_19 => ?_)
  refine lv_istore (lv' := [(5, .int v_19), (0, .ref (ad G 715)), (1, .ref (cy G (20 + 9))), (2, .int a), (3, .int b), (4, .int c_)]) hx hb dX7_change_23 hl (by decide) rfl (fun ls_20 hl_21 => ?_)
  refine lv_iload hx hb dX7_change_25 (lv_at hl_21 0 rfl) ?_
  refine g_cxv (vx_runS (As := [.int v_19]) (rest := []) C.1 (cX7_throwIfRefused_ok l G hst (setRow (setRow X (sp + 1) w_7) 0 w_17) v_19) (va_cwS 1 C.1.2.2.2.2 (gS qw_909 qw_910 qw_71 qw_911) rfl rfl rfl (by decide +kernel) ⟨Nat.le_of_ble_eq_true rfl, Nat.le_of_ble_eq_true rfl⟩) (g_pre C hW_18 hS_15 [.int v_19]) rfl rfl hl_21.1 rfl (lv_room (Nat.le_of_ble_eq_true rfl)) dX7_change_27 ⟨by decide, by decide⟩) hS_15 ?_ ?_
  · intro E9 ce9 q9 Y_23 H9 locs9 hW9 hS9 h_22 h91 h92 h93
    obtain ⟨b_24, hy_25⟩ := h_22
    replace hy_25 := hy_25.symm
    subst hy_25
    exact g_out hex hlk hW9 hS9 (by subst ev_19; subst ew_17; subst ew_7; exact ⟨b_24, rfl⟩) h91 h92 h93 (by decide) (by decide)
  intro Y_27 H_31 locs_32 hW_29 hS_30 h_26
  obtain ⟨b_33, hy_34⟩ := h_26
  replace hy_34 := hy_34.symm
  subst hy_34
  refine lv_aload_n hx hb dX7_change_30 rfl (lv_at hl_21 1 rfl) ?_
  refine gF_history C hW_29 (hwc hwX7) (mc qw_288) dX7_change_31 ?_
  refine g_callv (va_runV (As := []) (rest := []) C.1 (cX2_keep_ok l G (setRow (setRow X (sp + 1) w_7) 0 w_17) sp hsp ((congrFun (rd_in (by decide) (rd_in (by omega) rfl)) _).trans es) cn hcn ((congrFun (rd_in (by decide) (rd_in (by omega) rfl)) _).trans ec)) (cwV 0 C.1.2.2.2.2 (gV qw_983 qw_984 qw_985 qw_75 qw_986) rfl rfl rfl (by decide +kernel) ⟨Nat.le_of_ble_eq_true rfl, Nat.le_of_ble_eq_true rfl⟩) (g_rHist C hW_29 hS_30 []) rfl rfl hl_21.1 rfl (lv_room (Nat.le_of_ble_eq_true rfl)) dX7_change_34 ⟨by decide, by decide⟩) hS_30 (fun Y_36 H_37 locs_38 hW_39 hS_40 h_35 => ?_)
  obtain ⟨w_41, ew_41⟩ : ∃ Z9, Z9 = keepR (X.1 11) sp cn := ⟨_, rfl⟩
  have hW_42 : Wd G (setRow (setRow (setRow X (sp + 1) w_7) 0 w_17) 11 w_41) H_37 := Wd.cast (by rw [h_35, ew_41]; exact (congrArg (fun Z9 => setRow (setRow (setRow X (sp + 1) w_7) 0 w_17) 11 (keepR Z9 sp cn)) (rd_in (by decide) (rd_in (by omega) rfl)))) hW_39
  refine lv_iload hx hb dX7_change_37 (lv_at hl_21 0 rfl) ?_
  refine W.widen (k := 1) (n := 6) (by decide) (by decide) ?_
  refine vx_ret ?_
  exact g_iret C hr hlk hW_42 hS_40 dX7_change_39 (by subst ew_41; subst ev_19; subst ew_17; subst ew_7; exact ⟨b_33, rfl, rfl⟩)

set_option maxHeartbeats 4000000 in
set_option maxRecDepth 100000 in
theorem cX7_charge_ok (l : Launch) (G : GT) (hst : l.stackTraces = false) (X : St) (hi : PInv (X.1 0)) (sp : Nat) (hsp : sp < 9) (es : X.1 11 3 = nI sp) (cn : Nat) (hcn : cn ≤ 8) (ec : X.1 11 4 = nI cn) (a b c_ : Int32) : MetXI l G 1 yX7_charge (wsG yX7_charge cX7_charge 4 (some .int)) (rmk 1 42 449) [.ref (ad G 715), .int a, .int b, .int c_] X (fun res Y => refE (performR 0 (X.1 0) a b c_).1 = none ∧ res = (performR 0 (X.1 0) a b c_).1 ∧ Y = setRow (setRow (setRow X (sp + 1) (cpPlantR (X.1 (sp + 1)) (X.1 0))) 0 (performR 0 (X.1 0) a b c_).2) 11 (keepR (X.1 11) sp cn)) (fun E Y => refE (performR 0 (X.1 0) a b c_).1 = some E ∧ Y = setRow (setRow X (sp + 1) (cpPlantR (X.1 (sp + 1)) (X.1 0))) 0 (performR 0 (X.1 0) a b c_).2) := by
  refine g_metX (cc := cX7_charge) (maxL := 4) (ret := (some .int)) (by decide) rfl (Nat.le_of_ble_eq_true rfl) ?_
  intro p e s m below meth c ls C hr hlk hex hW hl
  have hx := C.1.1
  have hb := C.1.2.1
  have hS : va_S (Ab G) s.heap s.heap [] := va_S.rf
  have hl : lv_has ls 4 [(0, .ref (ad G 715)), (1, .int a), (2, .int b), (3, .int c_)] := hl
  refine lv_aload_n hx hb dX7_charge_0 rfl (lv_at hl 0 rfl) ?_
  refine va_gets (v := .ref (cy G (20 + 0))) C.1.1 C.1.2.1 (C.2.2.2.2.2.2.2.1.1 0 (by decide)).1 hS C.1.2.2.2.1 (C.1.2.2.2.2 _ (mc qw_798)) (fun _ h => h) dX7_charge_1 ?_
  refine lv_iload_n hx hb dX7_charge_4 rfl (lv_at hl 1 rfl) ?_
  refine lv_iload_n hx hb dX7_charge_5 rfl (lv_at hl 2 rfl) ?_
  refine lv_iload_n hx hb dX7_charge_6 rfl (lv_at hl 3 rfl) ?_
  refine g_cxi (vx_runV (As := [.ref (cy G (20 + 0)), .int a, .int b, .int c_]) (rest := []) C.1 (cX7_change0_ok l G hst X hi sp hsp es cn hcn ec a b c_) (cwV 4 C.1.2.2.2.2 (gV qw_800 qw_802 qw_2 qw_71 qw_803) rfl rfl rfl (by decide +kernel) ⟨Nat.le_of_ble_eq_true rfl, Nat.le_of_ble_eq_true rfl⟩) (g_rFoundry C hW hS [.ref (cy G (20 + 0)), .int a, .int b, .int c_]) rfl rfl hl.1 rfl (lv_room (Nat.le_of_ble_eq_true rfl)) dX7_charge_7 ⟨by decide, by decide⟩) hS ?_ ?_
  · intro E9 ce9 q9 Y_2 H9 locs9 hW9 hS9 h_1 h91 h92 h93
    exact g_out hex hlk hW9 hS9 h_1 h91 h92 h93 (by decide) (by decide)
  intro r_5 Y_4 H_8 locs_9 hW_6 hS_7 h_3
  obtain ⟨b_10, hr_11, hy_12⟩ := h_3
  subst hr_11
  have hW_13 : Wd G (setRow (setRow (setRow X (sp + 1) (cpPlantR (X.1 (sp + 1)) (X.1 0))) 0 ((performR 0 (X.1 0) a b c_).2)) 11 (keepR (X.1 11) sp cn)) H_8 := Wd.cast hy_12 hW_6
  refine W.widen (k := 1) (n := 6) (by decide) (by decide) ?_
  refine vx_ret ?_
  exact g_iret C hr hlk hW_13 hS_7 dX7_charge_10 ⟨b_10, rfl, rfl⟩

set_option maxHeartbeats 4000000 in
set_option maxRecDepth 100000 in
theorem cX7_setFire_ok (l : Launch) (G : GT) (hst : l.stackTraces = false) (X : St) (hi : PInv (X.1 0)) (sp : Nat) (hsp : sp < 9) (es : X.1 11 3 = nI sp) (cn : Nat) (hcn : cn ≤ 8) (ec : X.1 11 4 = nI cn) (a b : Int32) : MetXI l G 1 yX7_setFire (wsG yX7_setFire cX7_setFire 3 (some .int)) (rmk 1 42 449) [.ref (ad G 715), .int a, .int b] X (fun res Y => refE (performR 1 (X.1 0) a b 0).1 = none ∧ res = (performR 1 (X.1 0) a b 0).1 ∧ Y = setRow (setRow (setRow X (sp + 1) (cpPlantR (X.1 (sp + 1)) (X.1 0))) 0 (performR 1 (X.1 0) a b 0).2) 11 (keepR (X.1 11) sp cn)) (fun E Y => refE (performR 1 (X.1 0) a b 0).1 = some E ∧ Y = setRow (setRow X (sp + 1) (cpPlantR (X.1 (sp + 1)) (X.1 0))) 0 (performR 1 (X.1 0) a b 0).2) := by
  refine g_metX (cc := cX7_setFire) (maxL := 3) (ret := (some .int)) (by decide) rfl (Nat.le_of_ble_eq_true rfl) ?_
  intro p e s m below meth c ls C hr hlk hex hW hl
  have hx := C.1.1
  have hb := C.1.2.1
  have hS : va_S (Ab G) s.heap s.heap [] := va_S.rf
  have hl : lv_has ls 3 [(0, .ref (ad G 715)), (1, .int a), (2, .int b)] := hl
  refine lv_aload_n hx hb dX7_setFire_0 rfl (lv_at hl 0 rfl) ?_
  refine va_gets (v := .ref (cy G (20 + 1))) C.1.1 C.1.2.1 (C.2.2.2.2.2.2.2.1.1 1 (by decide)).1 hS C.1.2.2.2.1 (C.1.2.2.2.2 _ (mc qw_995)) (fun _ h => h) dX7_setFire_1 ?_
  refine lv_iload_n hx hb dX7_setFire_4 rfl (lv_at hl 1 rfl) ?_
  refine lv_iload_n hx hb dX7_setFire_5 rfl (lv_at hl 2 rfl) ?_
  refine lv_iconst (v := 0) hx hb dX7_setFire_6 (by decide) ?_
  refine g_cxi (vx_runV (As := [.ref (cy G (20 + 1)), .int a, .int b, .int 0]) (rest := []) C.1 (cX7_change1_ok l G hst X hi sp hsp es cn hcn ec a b 0) (cwV 4 C.1.2.2.2.2 (gV qw_800 qw_802 qw_2 qw_71 qw_803) rfl rfl rfl (by decide +kernel) ⟨Nat.le_of_ble_eq_true rfl, Nat.le_of_ble_eq_true rfl⟩) (g_rFoundry C hW hS [.ref (cy G (20 + 1)), .int a, .int b, .int 0]) rfl rfl hl.1 rfl (lv_room (Nat.le_of_ble_eq_true rfl)) dX7_setFire_7 ⟨by decide, by decide⟩) hS ?_ ?_
  · intro E9 ce9 q9 Y_2 H9 locs9 hW9 hS9 h_1 h91 h92 h93
    exact g_out hex hlk hW9 hS9 h_1 h91 h92 h93 (by decide) (by decide)
  intro r_5 Y_4 H_8 locs_9 hW_6 hS_7 h_3
  obtain ⟨b_10, hr_11, hy_12⟩ := h_3
  subst hr_11
  have hW_13 : Wd G (setRow (setRow (setRow X (sp + 1) (cpPlantR (X.1 (sp + 1)) (X.1 0))) 0 ((performR 1 (X.1 0) a b 0).2)) 11 (keepR (X.1 11) sp cn)) H_8 := Wd.cast hy_12 hW_6
  refine W.widen (k := 1) (n := 6) (by decide) (by decide) ?_
  refine vx_ret ?_
  exact g_iret C hr hlk hW_13 hS_7 dX7_setFire_10 ⟨b_10, rfl, rfl⟩

set_option maxHeartbeats 4000000 in
set_option maxRecDepth 100000 in
theorem cX7_skim_ok (l : Launch) (G : GT) (hst : l.stackTraces = false) (X : St) (hi : PInv (X.1 0)) (sp : Nat) (hsp : sp < 9) (es : X.1 11 3 = nI sp) (cn : Nat) (hcn : cn ≤ 8) (ec : X.1 11 4 = nI cn) (a : Int32) : MetXI l G 1 yX7_skim (wsG yX7_skim cX7_skim 2 (some .int)) (rmk 1 42 449) [.ref (ad G 715), .int a] X (fun res Y => refE (performR 2 (X.1 0) a 0 0).1 = none ∧ res = (performR 2 (X.1 0) a 0 0).1 ∧ Y = setRow (setRow (setRow X (sp + 1) (cpPlantR (X.1 (sp + 1)) (X.1 0))) 0 (performR 2 (X.1 0) a 0 0).2) 11 (keepR (X.1 11) sp cn)) (fun E Y => refE (performR 2 (X.1 0) a 0 0).1 = some E ∧ Y = setRow (setRow X (sp + 1) (cpPlantR (X.1 (sp + 1)) (X.1 0))) 0 (performR 2 (X.1 0) a 0 0).2) := by
  refine g_metX (cc := cX7_skim) (maxL := 2) (ret := (some .int)) (by decide) rfl (Nat.le_of_ble_eq_true rfl) ?_
  intro p e s m below meth c ls C hr hlk hex hW hl
  have hx := C.1.1
  have hb := C.1.2.1
  have hS : va_S (Ab G) s.heap s.heap [] := va_S.rf
  have hl : lv_has ls 2 [(0, .ref (ad G 715)), (1, .int a)] := hl
  refine lv_aload_n hx hb dX7_skim_0 rfl (lv_at hl 0 rfl) ?_
  refine va_gets (v := .ref (cy G (20 + 2))) C.1.1 C.1.2.1 (C.2.2.2.2.2.2.2.1.1 2 (by decide)).1 hS C.1.2.2.2.1 (C.1.2.2.2.2 _ (mc qw_1006)) (fun _ h => h) dX7_skim_1 ?_
  refine lv_iload_n hx hb dX7_skim_4 rfl (lv_at hl 1 rfl) ?_
  refine lv_iconst (v := 0) hx hb dX7_skim_5 (by decide) ?_
  refine lv_iconst (v := 0) hx hb dX7_skim_6 (by decide) ?_
  refine g_cxi (vx_runV (As := [.ref (cy G (20 + 2)), .int a, .int 0, .int 0]) (rest := []) C.1 (cX7_change2_ok l G hst X hi sp hsp es cn hcn ec a 0 0) (cwV 4 C.1.2.2.2.2 (gV qw_800 qw_802 qw_2 qw_71 qw_803) rfl rfl rfl (by decide +kernel) ⟨Nat.le_of_ble_eq_true rfl, Nat.le_of_ble_eq_true rfl⟩) (g_rFoundry C hW hS [.ref (cy G (20 + 2)), .int a, .int 0, .int 0]) rfl rfl hl.1 rfl (lv_room (Nat.le_of_ble_eq_true rfl)) dX7_skim_7 ⟨by decide, by decide⟩) hS ?_ ?_
  · intro E9 ce9 q9 Y_2 H9 locs9 hW9 hS9 h_1 h91 h92 h93
    exact g_out hex hlk hW9 hS9 h_1 h91 h92 h93 (by decide) (by decide)
  intro r_5 Y_4 H_8 locs_9 hW_6 hS_7 h_3
  obtain ⟨b_10, hr_11, hy_12⟩ := h_3
  subst hr_11
  have hW_13 : Wd G (setRow (setRow (setRow X (sp + 1) (cpPlantR (X.1 (sp + 1)) (X.1 0))) 0 ((performR 2 (X.1 0) a 0 0).2)) 11 (keepR (X.1 11) sp cn)) H_8 := Wd.cast hy_12 hW_6
  refine W.widen (k := 1) (n := 6) (by decide) (by decide) ?_
  refine vx_ret ?_
  exact g_iret C hr hlk hW_13 hS_7 dX7_skim_10 ⟨b_10, rfl, rfl⟩

set_option maxHeartbeats 4000000 in
set_option maxRecDepth 100000 in
theorem cX7_tap_ok (l : Launch) (G : GT) (hst : l.stackTraces = false) (X : St) (hi : PInv (X.1 0)) (sp : Nat) (hsp : sp < 9) (es : X.1 11 3 = nI sp) (cn : Nat) (hcn : cn ≤ 8) (ec : X.1 11 4 = nI cn) (a b c_ : Int32) : MetXI l G 1 yX7_tap (wsG yX7_tap cX7_tap 4 (some .int)) (rmk 1 42 449) [.ref (ad G 715), .int a, .int b, .int c_] X (fun res Y => refE (performR 3 (X.1 0) a b c_).1 = none ∧ res = (performR 3 (X.1 0) a b c_).1 ∧ Y = setRow (setRow (setRow X (sp + 1) (cpPlantR (X.1 (sp + 1)) (X.1 0))) 0 (performR 3 (X.1 0) a b c_).2) 11 (keepR (X.1 11) sp cn)) (fun E Y => refE (performR 3 (X.1 0) a b c_).1 = some E ∧ Y = setRow (setRow X (sp + 1) (cpPlantR (X.1 (sp + 1)) (X.1 0))) 0 (performR 3 (X.1 0) a b c_).2) := by
  refine g_metX (cc := cX7_tap) (maxL := 4) (ret := (some .int)) (by decide) rfl (Nat.le_of_ble_eq_true rfl) ?_
  intro p e s m below meth c ls C hr hlk hex hW hl
  have hx := C.1.1
  have hb := C.1.2.1
  have hS : va_S (Ab G) s.heap s.heap [] := va_S.rf
  have hl : lv_has ls 4 [(0, .ref (ad G 715)), (1, .int a), (2, .int b), (3, .int c_)] := hl
  refine lv_aload_n hx hb dX7_tap_0 rfl (lv_at hl 0 rfl) ?_
  refine va_gets (v := .ref (cy G (20 + 3))) C.1.1 C.1.2.1 (C.2.2.2.2.2.2.2.1.1 3 (by decide)).1 hS C.1.2.2.2.1 (C.1.2.2.2.2 _ (mc qw_1015)) (fun _ h => h) dX7_tap_1 ?_
  refine lv_iload_n hx hb dX7_tap_4 rfl (lv_at hl 1 rfl) ?_
  refine lv_iload_n hx hb dX7_tap_5 rfl (lv_at hl 2 rfl) ?_
  refine lv_iload_n hx hb dX7_tap_6 rfl (lv_at hl 3 rfl) ?_
  refine g_cxi (vx_runV (As := [.ref (cy G (20 + 3)), .int a, .int b, .int c_]) (rest := []) C.1 (cX7_change3_ok l G hst X hi sp hsp es cn hcn ec a b c_) (cwV 4 C.1.2.2.2.2 (gV qw_800 qw_802 qw_2 qw_71 qw_803) rfl rfl rfl (by decide +kernel) ⟨Nat.le_of_ble_eq_true rfl, Nat.le_of_ble_eq_true rfl⟩) (g_rFoundry C hW hS [.ref (cy G (20 + 3)), .int a, .int b, .int c_]) rfl rfl hl.1 rfl (lv_room (Nat.le_of_ble_eq_true rfl)) dX7_tap_7 ⟨by decide, by decide⟩) hS ?_ ?_
  · intro E9 ce9 q9 Y_2 H9 locs9 hW9 hS9 h_1 h91 h92 h93
    exact g_out hex hlk hW9 hS9 h_1 h91 h92 h93 (by decide) (by decide)
  intro r_5 Y_4 H_8 locs_9 hW_6 hS_7 h_3
  obtain ⟨b_10, hr_11, hy_12⟩ := h_3
  subst hr_11
  have hW_13 : Wd G (setRow (setRow (setRow X (sp + 1) (cpPlantR (X.1 (sp + 1)) (X.1 0))) 0 ((performR 3 (X.1 0) a b c_).2)) 11 (keepR (X.1 11) sp cn)) H_8 := Wd.cast hy_12 hW_6
  refine W.widen (k := 1) (n := 6) (by decide) (by decide) ?_
  refine vx_ret ?_
  exact g_iret C hr hlk hW_13 hS_7 dX7_tap_10 ⟨b_10, rfl, rfl⟩

set_option maxHeartbeats 4000000 in
set_option maxRecDepth 100000 in
theorem cX7_pourBack_ok (l : Launch) (G : GT) (hst : l.stackTraces = false) (X : St) (hi : PInv (X.1 0)) (sp : Nat) (hsp : sp < 9) (es : X.1 11 3 = nI sp) (cn : Nat) (hcn : cn ≤ 8) (ec : X.1 11 4 = nI cn) (a b : Int32) : MetXI l G 1 yX7_pourBack (wsG yX7_pourBack cX7_pourBack 3 (some .int)) (rmk 1 42 449) [.ref (ad G 715), .int a, .int b] X (fun res Y => refE (performR 4 (X.1 0) a b 0).1 = none ∧ res = (performR 4 (X.1 0) a b 0).1 ∧ Y = setRow (setRow (setRow X (sp + 1) (cpPlantR (X.1 (sp + 1)) (X.1 0))) 0 (performR 4 (X.1 0) a b 0).2) 11 (keepR (X.1 11) sp cn)) (fun E Y => refE (performR 4 (X.1 0) a b 0).1 = some E ∧ Y = setRow (setRow X (sp + 1) (cpPlantR (X.1 (sp + 1)) (X.1 0))) 0 (performR 4 (X.1 0) a b 0).2) := by
  refine g_metX (cc := cX7_pourBack) (maxL := 3) (ret := (some .int)) (by decide) rfl (Nat.le_of_ble_eq_true rfl) ?_
  intro p e s m below meth c ls C hr hlk hex hW hl
  have hx := C.1.1
  have hb := C.1.2.1
  have hS : va_S (Ab G) s.heap s.heap [] := va_S.rf
  have hl : lv_has ls 3 [(0, .ref (ad G 715)), (1, .int a), (2, .int b)] := hl
  refine lv_aload_n hx hb dX7_pourBack_0 rfl (lv_at hl 0 rfl) ?_
  refine va_gets (v := .ref (cy G (20 + 4))) C.1.1 C.1.2.1 (C.2.2.2.2.2.2.2.1.1 4 (by decide)).1 hS C.1.2.2.2.1 (C.1.2.2.2.2 _ (mc qw_1024)) (fun _ h => h) dX7_pourBack_1 ?_
  refine lv_iload_n hx hb dX7_pourBack_4 rfl (lv_at hl 1 rfl) ?_
  refine lv_iload_n hx hb dX7_pourBack_5 rfl (lv_at hl 2 rfl) ?_
  refine lv_iconst (v := 0) hx hb dX7_pourBack_6 (by decide) ?_
  refine g_cxi (vx_runV (As := [.ref (cy G (20 + 4)), .int a, .int b, .int 0]) (rest := []) C.1 (cX7_change4_ok l G hst X hi sp hsp es cn hcn ec a b 0) (cwV 4 C.1.2.2.2.2 (gV qw_800 qw_802 qw_2 qw_71 qw_803) rfl rfl rfl (by decide +kernel) ⟨Nat.le_of_ble_eq_true rfl, Nat.le_of_ble_eq_true rfl⟩) (g_rFoundry C hW hS [.ref (cy G (20 + 4)), .int a, .int b, .int 0]) rfl rfl hl.1 rfl (lv_room (Nat.le_of_ble_eq_true rfl)) dX7_pourBack_7 ⟨by decide, by decide⟩) hS ?_ ?_
  · intro E9 ce9 q9 Y_2 H9 locs9 hW9 hS9 h_1 h91 h92 h93
    exact g_out hex hlk hW9 hS9 h_1 h91 h92 h93 (by decide) (by decide)
  intro r_5 Y_4 H_8 locs_9 hW_6 hS_7 h_3
  obtain ⟨b_10, hr_11, hy_12⟩ := h_3
  subst hr_11
  have hW_13 : Wd G (setRow (setRow (setRow X (sp + 1) (cpPlantR (X.1 (sp + 1)) (X.1 0))) 0 ((performR 4 (X.1 0) a b 0).2)) 11 (keepR (X.1 11) sp cn)) H_8 := Wd.cast hy_12 hW_6
  refine W.widen (k := 1) (n := 6) (by decide) (by decide) ?_
  refine vx_ret ?_
  exact g_iret C hr hlk hW_13 hS_7 dX7_pourBack_10 ⟨b_10, rfl, rfl⟩

set_option maxHeartbeats 4000000 in
set_option maxRecDepth 100000 in
theorem cX7_addMould_ok (l : Launch) (G : GT) (hst : l.stackTraces = false) (X : St) (hi : PInv (X.1 0)) (sp : Nat) (hsp : sp < 9) (es : X.1 11 3 = nI sp) (cn : Nat) (hcn : cn ≤ 8) (ec : X.1 11 4 = nI cn) (a : Int32) : MetXI l G 1 yX7_addMould (wsG yX7_addMould cX7_addMould 2 (some .int)) (rmk 1 42 449) [.ref (ad G 715), .int a] X (fun res Y => refE (performR 5 (X.1 0) a 0 0).1 = none ∧ res = (performR 5 (X.1 0) a 0 0).1 ∧ Y = setRow (setRow (setRow X (sp + 1) (cpPlantR (X.1 (sp + 1)) (X.1 0))) 0 (performR 5 (X.1 0) a 0 0).2) 11 (keepR (X.1 11) sp cn)) (fun E Y => refE (performR 5 (X.1 0) a 0 0).1 = some E ∧ Y = setRow (setRow X (sp + 1) (cpPlantR (X.1 (sp + 1)) (X.1 0))) 0 (performR 5 (X.1 0) a 0 0).2) := by
  refine g_metX (cc := cX7_addMould) (maxL := 2) (ret := (some .int)) (by decide) rfl (Nat.le_of_ble_eq_true rfl) ?_
  intro p e s m below meth c ls C hr hlk hex hW hl
  have hx := C.1.1
  have hb := C.1.2.1
  have hS : va_S (Ab G) s.heap s.heap [] := va_S.rf
  have hl : lv_has ls 2 [(0, .ref (ad G 715)), (1, .int a)] := hl
  refine lv_aload_n hx hb dX7_addMould_0 rfl (lv_at hl 0 rfl) ?_
  refine va_gets (v := .ref (cy G (20 + 5))) C.1.1 C.1.2.1 (C.2.2.2.2.2.2.2.1.1 5 (by decide)).1 hS C.1.2.2.2.1 (C.1.2.2.2.2 _ (mc qw_1033)) (fun _ h => h) dX7_addMould_1 ?_
  refine lv_iload_n hx hb dX7_addMould_4 rfl (lv_at hl 1 rfl) ?_
  refine lv_iconst (v := 0) hx hb dX7_addMould_5 (by decide) ?_
  refine lv_iconst (v := 0) hx hb dX7_addMould_6 (by decide) ?_
  refine g_cxi (vx_runV (As := [.ref (cy G (20 + 5)), .int a, .int 0, .int 0]) (rest := []) C.1 (cX7_change5_ok l G hst X hi sp hsp es cn hcn ec a 0 0) (cwV 4 C.1.2.2.2.2 (gV qw_800 qw_802 qw_2 qw_71 qw_803) rfl rfl rfl (by decide +kernel) ⟨Nat.le_of_ble_eq_true rfl, Nat.le_of_ble_eq_true rfl⟩) (g_rFoundry C hW hS [.ref (cy G (20 + 5)), .int a, .int 0, .int 0]) rfl rfl hl.1 rfl (lv_room (Nat.le_of_ble_eq_true rfl)) dX7_addMould_7 ⟨by decide, by decide⟩) hS ?_ ?_
  · intro E9 ce9 q9 Y_2 H9 locs9 hW9 hS9 h_1 h91 h92 h93
    exact g_out hex hlk hW9 hS9 h_1 h91 h92 h93 (by decide) (by decide)
  intro r_5 Y_4 H_8 locs_9 hW_6 hS_7 h_3
  obtain ⟨b_10, hr_11, hy_12⟩ := h_3
  subst hr_11
  have hW_13 : Wd G (setRow (setRow (setRow X (sp + 1) (cpPlantR (X.1 (sp + 1)) (X.1 0))) 0 ((performR 5 (X.1 0) a 0 0).2)) 11 (keepR (X.1 11) sp cn)) H_8 := Wd.cast hy_12 hW_6
  refine W.widen (k := 1) (n := 6) (by decide) (by decide) ?_
  refine vx_ret ?_
  exact g_iret C hr hlk hW_13 hS_7 dX7_addMould_10 ⟨b_10, rfl, rfl⟩

set_option maxHeartbeats 4000000 in
set_option maxRecDepth 100000 in
theorem cX7_pour_ok (l : Launch) (G : GT) (hst : l.stackTraces = false) (X : St) (hi : PInv (X.1 0)) (sp : Nat) (hsp : sp < 9) (es : X.1 11 3 = nI sp) (cn : Nat) (hcn : cn ≤ 8) (ec : X.1 11 4 = nI cn) (a b : Int32) : MetXI l G 1 yX7_pour (wsG yX7_pour cX7_pour 3 (some .int)) (rmk 1 42 449) [.ref (ad G 715), .int a, .int b] X (fun res Y => refE (performR 6 (X.1 0) a b 0).1 = none ∧ res = (performR 6 (X.1 0) a b 0).1 ∧ Y = setRow (setRow (setRow X (sp + 1) (cpPlantR (X.1 (sp + 1)) (X.1 0))) 0 (performR 6 (X.1 0) a b 0).2) 11 (keepR (X.1 11) sp cn)) (fun E Y => refE (performR 6 (X.1 0) a b 0).1 = some E ∧ Y = setRow (setRow X (sp + 1) (cpPlantR (X.1 (sp + 1)) (X.1 0))) 0 (performR 6 (X.1 0) a b 0).2) := by
  refine g_metX (cc := cX7_pour) (maxL := 3) (ret := (some .int)) (by decide) rfl (Nat.le_of_ble_eq_true rfl) ?_
  intro p e s m below meth c ls C hr hlk hex hW hl
  have hx := C.1.1
  have hb := C.1.2.1
  have hS : va_S (Ab G) s.heap s.heap [] := va_S.rf
  have hl : lv_has ls 3 [(0, .ref (ad G 715)), (1, .int a), (2, .int b)] := hl
  refine lv_aload_n hx hb dX7_pour_0 rfl (lv_at hl 0 rfl) ?_
  refine va_gets (v := .ref (cy G (20 + 6))) C.1.1 C.1.2.1 (C.2.2.2.2.2.2.2.1.1 6 (by decide)).1 hS C.1.2.2.2.1 (C.1.2.2.2.2 _ (mc qw_1042)) (fun _ h => h) dX7_pour_1 ?_
  refine lv_iload_n hx hb dX7_pour_4 rfl (lv_at hl 1 rfl) ?_
  refine lv_iload_n hx hb dX7_pour_5 rfl (lv_at hl 2 rfl) ?_
  refine lv_iconst (v := 0) hx hb dX7_pour_6 (by decide) ?_
  refine g_cxi (vx_runV (As := [.ref (cy G (20 + 6)), .int a, .int b, .int 0]) (rest := []) C.1 (cX7_change6_ok l G hst X hi sp hsp es cn hcn ec a b 0) (cwV 4 C.1.2.2.2.2 (gV qw_800 qw_802 qw_2 qw_71 qw_803) rfl rfl rfl (by decide +kernel) ⟨Nat.le_of_ble_eq_true rfl, Nat.le_of_ble_eq_true rfl⟩) (g_rFoundry C hW hS [.ref (cy G (20 + 6)), .int a, .int b, .int 0]) rfl rfl hl.1 rfl (lv_room (Nat.le_of_ble_eq_true rfl)) dX7_pour_7 ⟨by decide, by decide⟩) hS ?_ ?_
  · intro E9 ce9 q9 Y_2 H9 locs9 hW9 hS9 h_1 h91 h92 h93
    exact g_out hex hlk hW9 hS9 h_1 h91 h92 h93 (by decide) (by decide)
  intro r_5 Y_4 H_8 locs_9 hW_6 hS_7 h_3
  obtain ⟨b_10, hr_11, hy_12⟩ := h_3
  subst hr_11
  have hW_13 : Wd G (setRow (setRow (setRow X (sp + 1) (cpPlantR (X.1 (sp + 1)) (X.1 0))) 0 ((performR 6 (X.1 0) a b 0).2)) 11 (keepR (X.1 11) sp cn)) H_8 := Wd.cast hy_12 hW_6
  refine W.widen (k := 1) (n := 6) (by decide) (by decide) ?_
  refine vx_ret ?_
  exact g_iret C hr hlk hW_13 hS_7 dX7_pour_10 ⟨b_10, rfl, rfl⟩

set_option maxHeartbeats 4000000 in
set_option maxRecDepth 100000 in
theorem cX7_breakOut_ok (l : Launch) (G : GT) (hst : l.stackTraces = false) (X : St) (hi : PInv (X.1 0)) (sp : Nat) (hsp : sp < 9) (es : X.1 11 3 = nI sp) (cn : Nat) (hcn : cn ≤ 8) (ec : X.1 11 4 = nI cn) (a : Int32) : MetXI l G 1 yX7_breakOut (wsG yX7_breakOut cX7_breakOut 2 (some .int)) (rmk 1 42 449) [.ref (ad G 715), .int a] X (fun res Y => refE (performR 7 (X.1 0) a 0 0).1 = none ∧ res = (performR 7 (X.1 0) a 0 0).1 ∧ Y = setRow (setRow (setRow X (sp + 1) (cpPlantR (X.1 (sp + 1)) (X.1 0))) 0 (performR 7 (X.1 0) a 0 0).2) 11 (keepR (X.1 11) sp cn)) (fun E Y => refE (performR 7 (X.1 0) a 0 0).1 = some E ∧ Y = setRow (setRow X (sp + 1) (cpPlantR (X.1 (sp + 1)) (X.1 0))) 0 (performR 7 (X.1 0) a 0 0).2) := by
  refine g_metX (cc := cX7_breakOut) (maxL := 2) (ret := (some .int)) (by decide) rfl (Nat.le_of_ble_eq_true rfl) ?_
  intro p e s m below meth c ls C hr hlk hex hW hl
  have hx := C.1.1
  have hb := C.1.2.1
  have hS : va_S (Ab G) s.heap s.heap [] := va_S.rf
  have hl : lv_has ls 2 [(0, .ref (ad G 715)), (1, .int a)] := hl
  refine lv_aload_n hx hb dX7_breakOut_0 rfl (lv_at hl 0 rfl) ?_
  refine va_gets (v := .ref (cy G (20 + 7))) C.1.1 C.1.2.1 (C.2.2.2.2.2.2.2.1.1 7 (by decide)).1 hS C.1.2.2.2.1 (C.1.2.2.2.2 _ (mc qw_1051)) (fun _ h => h) dX7_breakOut_1 ?_
  refine lv_iload_n hx hb dX7_breakOut_4 rfl (lv_at hl 1 rfl) ?_
  refine lv_iconst (v := 0) hx hb dX7_breakOut_5 (by decide) ?_
  refine lv_iconst (v := 0) hx hb dX7_breakOut_6 (by decide) ?_
  refine g_cxi (vx_runV (As := [.ref (cy G (20 + 7)), .int a, .int 0, .int 0]) (rest := []) C.1 (cX7_change7_ok l G hst X hi sp hsp es cn hcn ec a 0 0) (cwV 4 C.1.2.2.2.2 (gV qw_800 qw_802 qw_2 qw_71 qw_803) rfl rfl rfl (by decide +kernel) ⟨Nat.le_of_ble_eq_true rfl, Nat.le_of_ble_eq_true rfl⟩) (g_rFoundry C hW hS [.ref (cy G (20 + 7)), .int a, .int 0, .int 0]) rfl rfl hl.1 rfl (lv_room (Nat.le_of_ble_eq_true rfl)) dX7_breakOut_7 ⟨by decide, by decide⟩) hS ?_ ?_
  · intro E9 ce9 q9 Y_2 H9 locs9 hW9 hS9 h_1 h91 h92 h93
    exact g_out hex hlk hW9 hS9 h_1 h91 h92 h93 (by decide) (by decide)
  intro r_5 Y_4 H_8 locs_9 hW_6 hS_7 h_3
  obtain ⟨b_10, hr_11, hy_12⟩ := h_3
  subst hr_11
  have hW_13 : Wd G (setRow (setRow (setRow X (sp + 1) (cpPlantR (X.1 (sp + 1)) (X.1 0))) 0 ((performR 7 (X.1 0) a 0 0).2)) 11 (keepR (X.1 11) sp cn)) H_8 := Wd.cast hy_12 hW_6
  refine W.widen (k := 1) (n := 6) (by decide) (by decide) ?_
  refine vx_ret ?_
  exact g_iret C hr hlk hW_13 hS_7 dX7_breakOut_10 ⟨b_10, rfl, rfl⟩

set_option maxHeartbeats 4000000 in
set_option maxRecDepth 100000 in
theorem cX7_meltDown_ok (l : Launch) (G : GT) (hst : l.stackTraces = false) (X : St) (hi : PInv (X.1 0)) (sp : Nat) (hsp : sp < 9) (es : X.1 11 3 = nI sp) (cn : Nat) (hcn : cn ≤ 8) (ec : X.1 11 4 = nI cn) (a b : Int32) : MetXI l G 1 yX7_meltDown (wsG yX7_meltDown cX7_meltDown 3 (some .int)) (rmk 1 42 449) [.ref (ad G 715), .int a, .int b] X (fun res Y => refE (performR 8 (X.1 0) a b 0).1 = none ∧ res = (performR 8 (X.1 0) a b 0).1 ∧ Y = setRow (setRow (setRow X (sp + 1) (cpPlantR (X.1 (sp + 1)) (X.1 0))) 0 (performR 8 (X.1 0) a b 0).2) 11 (keepR (X.1 11) sp cn)) (fun E Y => refE (performR 8 (X.1 0) a b 0).1 = some E ∧ Y = setRow (setRow X (sp + 1) (cpPlantR (X.1 (sp + 1)) (X.1 0))) 0 (performR 8 (X.1 0) a b 0).2) := by
  refine g_metX (cc := cX7_meltDown) (maxL := 3) (ret := (some .int)) (by decide) rfl (Nat.le_of_ble_eq_true rfl) ?_
  intro p e s m below meth c ls C hr hlk hex hW hl
  have hx := C.1.1
  have hb := C.1.2.1
  have hS : va_S (Ab G) s.heap s.heap [] := va_S.rf
  have hl : lv_has ls 3 [(0, .ref (ad G 715)), (1, .int a), (2, .int b)] := hl
  refine lv_aload_n hx hb dX7_meltDown_0 rfl (lv_at hl 0 rfl) ?_
  refine va_gets (v := .ref (cy G (20 + 8))) C.1.1 C.1.2.1 (C.2.2.2.2.2.2.2.1.1 8 (by decide)).1 hS C.1.2.2.2.1 (C.1.2.2.2.2 _ (mc qw_1060)) (fun _ h => h) dX7_meltDown_1 ?_
  refine lv_iload_n hx hb dX7_meltDown_4 rfl (lv_at hl 1 rfl) ?_
  refine lv_iload_n hx hb dX7_meltDown_5 rfl (lv_at hl 2 rfl) ?_
  refine lv_iconst (v := 0) hx hb dX7_meltDown_6 (by decide) ?_
  refine g_cxi (vx_runV (As := [.ref (cy G (20 + 8)), .int a, .int b, .int 0]) (rest := []) C.1 (cX7_change8_ok l G hst X hi sp hsp es cn hcn ec a b 0) (cwV 4 C.1.2.2.2.2 (gV qw_800 qw_802 qw_2 qw_71 qw_803) rfl rfl rfl (by decide +kernel) ⟨Nat.le_of_ble_eq_true rfl, Nat.le_of_ble_eq_true rfl⟩) (g_rFoundry C hW hS [.ref (cy G (20 + 8)), .int a, .int b, .int 0]) rfl rfl hl.1 rfl (lv_room (Nat.le_of_ble_eq_true rfl)) dX7_meltDown_7 ⟨by decide, by decide⟩) hS ?_ ?_
  · intro E9 ce9 q9 Y_2 H9 locs9 hW9 hS9 h_1 h91 h92 h93
    exact g_out hex hlk hW9 hS9 h_1 h91 h92 h93 (by decide) (by decide)
  intro r_5 Y_4 H_8 locs_9 hW_6 hS_7 h_3
  obtain ⟨b_10, hr_11, hy_12⟩ := h_3
  subst hr_11
  have hW_13 : Wd G (setRow (setRow (setRow X (sp + 1) (cpPlantR (X.1 (sp + 1)) (X.1 0))) 0 ((performR 8 (X.1 0) a b 0).2)) 11 (keepR (X.1 11) sp cn)) H_8 := Wd.cast hy_12 hW_6
  refine W.widen (k := 1) (n := 6) (by decide) (by decide) ?_
  refine vx_ret ?_
  exact g_iret C hr hlk hW_13 hS_7 dX7_meltDown_10 ⟨b_10, rfl, rfl⟩

set_option maxHeartbeats 4000000 in
set_option maxRecDepth 100000 in
theorem cX7_advance_ok (l : Launch) (G : GT) (hst : l.stackTraces = false) (X : St) (hi : PInv (X.1 0)) (sp : Nat) (hsp : sp < 9) (es : X.1 11 3 = nI sp) (cn : Nat) (hcn : cn ≤ 8) (ec : X.1 11 4 = nI cn) (a : Int32) : MetXI l G 1 yX7_advance (wsG yX7_advance cX7_advance 2 (some .int)) (rmk 1 42 449) [.ref (ad G 715), .int a] X (fun res Y => refE (performR 9 (X.1 0) a 0 0).1 = none ∧ res = (performR 9 (X.1 0) a 0 0).1 ∧ Y = setRow (setRow (setRow X (sp + 1) (cpPlantR (X.1 (sp + 1)) (X.1 0))) 0 (performR 9 (X.1 0) a 0 0).2) 11 (keepR (X.1 11) sp cn)) (fun E Y => refE (performR 9 (X.1 0) a 0 0).1 = some E ∧ Y = setRow (setRow X (sp + 1) (cpPlantR (X.1 (sp + 1)) (X.1 0))) 0 (performR 9 (X.1 0) a 0 0).2) := by
  refine g_metX (cc := cX7_advance) (maxL := 2) (ret := (some .int)) (by decide) rfl (Nat.le_of_ble_eq_true rfl) ?_
  intro p e s m below meth c ls C hr hlk hex hW hl
  have hx := C.1.1
  have hb := C.1.2.1
  have hS : va_S (Ab G) s.heap s.heap [] := va_S.rf
  have hl : lv_has ls 2 [(0, .ref (ad G 715)), (1, .int a)] := hl
  refine lv_aload_n hx hb dX7_advance_0 rfl (lv_at hl 0 rfl) ?_
  refine va_gets (v := .ref (cy G (20 + 9))) C.1.1 C.1.2.1 (C.2.2.2.2.2.2.2.1.1 9 (by decide)).1 hS C.1.2.2.2.1 (C.1.2.2.2.2 _ (mc qw_1069)) (fun _ h => h) dX7_advance_1 ?_
  refine lv_iload_n hx hb dX7_advance_4 rfl (lv_at hl 1 rfl) ?_
  refine lv_iconst (v := 0) hx hb dX7_advance_5 (by decide) ?_
  refine lv_iconst (v := 0) hx hb dX7_advance_6 (by decide) ?_
  refine g_cxi (vx_runV (As := [.ref (cy G (20 + 9)), .int a, .int 0, .int 0]) (rest := []) C.1 (cX7_change9_ok l G hst X hi sp hsp es cn hcn ec a 0 0) (cwV 4 C.1.2.2.2.2 (gV qw_800 qw_802 qw_2 qw_71 qw_803) rfl rfl rfl (by decide +kernel) ⟨Nat.le_of_ble_eq_true rfl, Nat.le_of_ble_eq_true rfl⟩) (g_rFoundry C hW hS [.ref (cy G (20 + 9)), .int a, .int 0, .int 0]) rfl rfl hl.1 rfl (lv_room (Nat.le_of_ble_eq_true rfl)) dX7_advance_7 ⟨by decide, by decide⟩) hS ?_ ?_
  · intro E9 ce9 q9 Y_2 H9 locs9 hW9 hS9 h_1 h91 h92 h93
    exact g_out hex hlk hW9 hS9 h_1 h91 h92 h93 (by decide) (by decide)
  intro r_5 Y_4 H_8 locs_9 hW_6 hS_7 h_3
  obtain ⟨b_10, hr_11, hy_12⟩ := h_3
  subst hr_11
  have hW_13 : Wd G (setRow (setRow (setRow X (sp + 1) (cpPlantR (X.1 (sp + 1)) (X.1 0))) 0 ((performR 9 (X.1 0) a 0 0).2)) 11 (keepR (X.1 11) sp cn)) H_8 := Wd.cast hy_12 hW_6
  refine W.widen (k := 1) (n := 6) (by decide) (by decide) ?_
  refine vx_ret ?_
  exact g_iret C hr hlk hW_13 hS_7 dX7_advance_10 ⟨b_10, rfl, rfl⟩

set_option maxHeartbeats 4000000 in
set_option maxRecDepth 100000 in
theorem cX7_meanTemperature_ok (l : Launch) (G : GT) (X : St) : MetQd l G yX7_meanTemperature (wsG yX7_meanTemperature cX7_meanTemperature 3 (some .double)) (rmz 0 0) [.ref (ad G 715)] X (fun res Y => res = meanD (mtW (X.1 0)) ∧ Y = X) := by
  refine g_met (cc := cX7_meanTemperature) (maxL := 3) (ret := (some .double)) (by decide) rfl (Nat.le_of_ble_eq_true rfl) ?_
  intro p e s m below meth c ls C hr hlk hnm hW hl
  have hx := C.1.1
  have hb := C.1.2.1
  have hS : va_S (Ab G) s.heap s.heap [] := va_S.rf
  have hl : lv_has ls 3 [(0, .ref (ad G 715))] := hl
  refine lv_iconst (v := 0) hx hb dX7_meanTemperature_0 (by decide) ?_
  refine lv_istore_n (lv' := [(1, .int 0), (0, .ref (ad G 715))]) hx hb dX7_meanTemperature_1 rfl hl (by decide) rfl (fun ls_1 hl_2 => ?_)
  refine lv_iconst (v := 0) hx hb dX7_meanTemperature_2 (by decide) ?_
  refine lv_istore_n (lv' := [(2, .int 0), (1, .int 0), (0, .ref (ad G 715))]) hx hb dX7_meanTemperature_3 rfl hl_2 (by decide) rfl (fun ls_3 hl_4 => ?_)
  refine lv_iload_n hx hb dX7_meanTemperature_4 rfl (lv_at hl_4 0 rfl) ?_
  refine lv_iconst (v := 3) hx hb dX7_meanTemperature_5 (by decide) ?_
  refine lv_icmp_ge (tgt := 30) hx hb dX7_meanTemperature_6 (by decide) (fun h9 => absurd h9 (by decide)) (fun _ => ?_)
  refine lv_iload_n hx hb dX7_meanTemperature_9 rfl (lv_at hl_4 1 rfl) ?_
  refine lv_aload_n hx hb dX7_meanTemperature_10 rfl (lv_at hl_4 2 rfl) ?_
  refine gF_plant C hW (hwc hwX7) (mc qw_287) dX7_meanTemperature_11 ?_
  refine gP_furnacesN C hW h0_11 (hwc hwX4) nw_0 dX7_meanTemperature_14 ?_
  refine lv_iload_n hx hb dX7_meanTemperature_17 rfl (lv_at hl_4 0 rfl) ?_
  refine g_fur C hW h0_11 0 (by decide) (vlit (by decide)) dX7_meanTemperature_18 ?_
  refine g_tempN C hW (ves_fur (G := G) h0_11 (by decide)) (hwc hwX6) nw_3 dX7_meanTemperature_19 ?_
  refine lv_iadd hx hb dX7_meanTemperature_22 ?_
  refine g_top (y := (X.1 0 (9 + 6 * 0 + 4))) (Int32.zero_add _) ?_
  refine lv_topi (fun v_5 ev_5 => ?_)
  refine lv_istore_n (lv' := [(1, .int v_5), (2, .int 0), (0, .ref (ad G 715))]) hx hb dX7_meanTemperature_23 rfl hl_4 (by decide) rfl (fun ls_6 hl_7 => ?_)
  refine lv_iinc (v := 1) (lv' := [(2, .int 1), (1, .int v_5), (0, .ref (ad G 715))]) hx hb dX7_meanTemperature_24 hl_7 (k := 1) rfl (by decide) (by decide) rfl (fun ls_8 hl_9 => ?_)
  refine lv_goto (tgt := 4) hx hb dX7_meanTemperature_27 (by decide) ?_
  refine lv_iload_n hx hb dX7_meanTemperature_4 rfl (lv_at hl_9 0 rfl) ?_
  refine lv_iconst (v := 3) hx hb dX7_meanTemperature_5 (by decide) ?_
  refine lv_icmp_ge (tgt := 30) hx hb dX7_meanTemperature_6 (by decide) (fun h9 => absurd h9 (by decide)) (fun _ => ?_)
  refine lv_iload_n hx hb dX7_meanTemperature_9 rfl (lv_at hl_9 1 rfl) ?_
  refine lv_aload_n hx hb dX7_meanTemperature_10 rfl (lv_at hl_9 2 rfl) ?_
  refine gF_plant C hW (hwc hwX7) (mc qw_287) dX7_meanTemperature_11 ?_
  refine gP_furnacesN C hW h0_11 (hwc hwX4) nw_0 dX7_meanTemperature_14 ?_
  refine lv_iload_n hx hb dX7_meanTemperature_17 rfl (lv_at hl_9 0 rfl) ?_
  refine g_fur C hW h0_11 1 (by decide) (vlit (by decide)) dX7_meanTemperature_18 ?_
  refine g_tempN C hW (ves_fur (G := G) h0_11 (by decide)) (hwc hwX6) nw_3 dX7_meanTemperature_19 ?_
  refine lv_iadd hx hb dX7_meanTemperature_22 ?_
  refine lv_topi (fun v_10 ev_10 => ?_)
  refine lv_istore_n (lv' := [(1, .int v_10), (2, .int 1), (0, .ref (ad G 715))]) hx hb dX7_meanTemperature_23 rfl hl_9 (by decide) rfl (fun ls_11 hl_12 => ?_)
  refine lv_iinc (v := 2) (lv' := [(2, .int 2), (1, .int v_10), (0, .ref (ad G 715))]) hx hb dX7_meanTemperature_24 hl_12 (k := 1) rfl (by decide) (by decide) rfl (fun ls_13 hl_14 => ?_)
  refine lv_goto (tgt := 4) hx hb dX7_meanTemperature_27 (by decide) ?_
  refine lv_iload_n hx hb dX7_meanTemperature_4 rfl (lv_at hl_14 0 rfl) ?_
  refine lv_iconst (v := 3) hx hb dX7_meanTemperature_5 (by decide) ?_
  refine lv_icmp_ge (tgt := 30) hx hb dX7_meanTemperature_6 (by decide) (fun h9 => absurd h9 (by decide)) (fun _ => ?_)
  refine lv_iload_n hx hb dX7_meanTemperature_9 rfl (lv_at hl_14 1 rfl) ?_
  refine lv_aload_n hx hb dX7_meanTemperature_10 rfl (lv_at hl_14 2 rfl) ?_
  refine gF_plant C hW (hwc hwX7) (mc qw_287) dX7_meanTemperature_11 ?_
  refine gP_furnacesN C hW h0_11 (hwc hwX4) nw_0 dX7_meanTemperature_14 ?_
  refine lv_iload_n hx hb dX7_meanTemperature_17 rfl (lv_at hl_14 0 rfl) ?_
  refine g_fur C hW h0_11 2 (by decide) (vlit (by decide)) dX7_meanTemperature_18 ?_
  refine g_tempN C hW (ves_fur (G := G) h0_11 (by decide)) (hwc hwX6) nw_3 dX7_meanTemperature_19 ?_
  refine lv_iadd hx hb dX7_meanTemperature_22 ?_
  refine lv_topi (fun v_15 ev_15 => ?_)
  refine lv_istore_n (lv' := [(1, .int v_15), (2, .int 2), (0, .ref (ad G 715))]) hx hb dX7_meanTemperature_23 rfl hl_14 (by decide) rfl (fun ls_16 hl_17 => ?_)
  refine lv_iinc (v := 3) (lv' := [(2, .int 3), (1, .int v_15), (0, .ref (ad G 715))]) hx hb dX7_meanTemperature_24 hl_17 (k := 1) rfl (by decide) (by decide) rfl (fun ls_18 hl_19 => ?_)
  refine lv_goto (tgt := 4) hx hb dX7_meanTemperature_27 (by decide) ?_
  refine lv_iload_n hx hb dX7_meanTemperature_4 rfl (lv_at hl_19 0 rfl) ?_
  refine lv_iconst (v := 3) hx hb dX7_meanTemperature_5 (by decide) ?_
  refine lv_icmp_ge (tgt := 30) hx hb dX7_meanTemperature_6 (by decide) (fun _ => ?_) (fun h9 => absurd h9 (by decide))
  refine lv_iload_n hx hb dX7_meanTemperature_30 rfl (lv_at hl_19 1 rfl) ?_
  refine lv_i2d hx hb dX7_meanTemperature_31 ?_
  refine lv_ldc2d (v := 4613937818241073152) hx hb C.1.2.2.2.1 (C.1.2.2.2.2 _ (mc qx_three)) dX7_meanTemperature_32 ?_
  refine lv_ddiv hx hb dX7_meanTemperature_35 (fl_n64 (fl_mean v_15)) ?_
  exact g_dret C hr hlk hW hS dX7_meanTemperature_36 (by subst ev_15; subst ev_10; subst ev_5; exact ⟨rfl, rfl⟩)

set_option maxHeartbeats 4000000 in
set_option maxRecDepth 100000 in
theorem cX7_slagRate_ok (l : Launch) (G : GT) (hst : l.stackTraces = false) (X : St) : MetXQf l G 1 yX7_slagRate (wsG yX7_slagRate cX7_slagRate 2 (some .float)) (rmk 1 6 100) [.ref (ad G 715)] X (fun res Y => (¬ sumW (X.1 0) 1 = 0 ∧ res = rateF (sumW (X.1 0) 5) (sumW (X.1 0) 1)) ∧ Y = X) (fun E Y => (E = "java/lang/ArithmeticException" ∧ sumW (X.1 0) 1 = 0) ∧ Y = X) := by
  refine g_metX (cc := cX7_slagRate) (maxL := 2) (ret := (some .float)) (by decide) rfl (Nat.le_of_ble_eq_true rfl) ?_
  intro p e s m below meth c ls C hr hlk hex hW hl
  have hx := C.1.1
  have hb := C.1.2.1
  have hS : va_S (Ab G) s.heap s.heap [] := va_S.rf
  have hl : lv_has ls 2 [(0, .ref (ad G 715))] := hl
  refine lv_aload_n hx hb dX7_slagRate_0 rfl (lv_at hl 0 rfl) ?_
  refine gF_plant C hW (hwc hwX7) (mc qw_287) dX7_slagRate_1 ?_
  refine gP_chargedSoFarN C hW h0_11 (hwc hwX4) nw_12 dX7_slagRate_4 ?_
  refine g_calli (va_runV (As := []) (rest := []) C.1 (cX3_sum_ok l G X (65 * 0 + 7) (65 * 0 + 8) 0 1 (mix_chg h0_11)) (cwV 0 C.1.2.2.2.2 (gV qw_1093 qw_338 qw_339 qw_73 qw_340) rfl rfl rfl (by decide +kernel) ⟨Nat.le_of_ble_eq_true rfl, Nat.le_of_ble_eq_true rfl⟩) (g_rMix C hW hS (mix_chg h0_11) []) rfl rfl hl.1 rfl (lv_room (Nat.le_of_ble_eq_true rfl)) dX7_slagRate_7 ⟨by decide, by decide⟩) hS (fun r_2 Y_3 H_4 locs_5 hW_6 hS_7 h_1 => ?_)
  obtain ⟨h_1, hy_8⟩ := h_1
  replace hy_8 := hy_8.symm
  subst hy_8
  subst h_1
  refine lv_topi (fun v_9 ev_9 => ?_)
  refine lv_istore_n (lv' := [(1, .int v_9), (0, .ref (ad G 715))]) hx hb dX7_slagRate_10 rfl hl (by decide) rfl (fun ls_10 hl_11 => ?_)
  refine lv_iload_n hx hb dX7_slagRate_11 rfl (lv_at hl_11 0 rfl) ?_
  refine lv_if_ne (tgt := 23) hx hb dX7_slagRate_12 (by decide) (fun b_12 => ?_) (fun b_12 => ?_)
  · refine lv_aload_n hx hb dX7_slagRate_23 rfl (lv_at hl_11 1 rfl) ?_
    refine gF_plant C hW_6 (hwc hwX7) (mc qw_287) dX7_slagRate_24 ?_
    refine gP_slagSoFarN C hW_6 h0_11 (hwc hwX4) nw_13 dX7_slagRate_27 ?_
    refine g_calli (va_runV (As := []) (rest := []) C.1 (cX3_sum_ok l G X (65 * 0 + 9) (65 * 0 + 10) 0 5 (mix_slag h0_11)) (cwV 0 C.1.2.2.2.2 (gV qw_1093 qw_338 qw_339 qw_73 qw_340) rfl rfl rfl (by decide +kernel) ⟨Nat.le_of_ble_eq_true rfl, Nat.le_of_ble_eq_true rfl⟩) (g_rMix C hW_6 hS_7 (mix_slag h0_11) []) rfl rfl hl_11.1 rfl (lv_room (Nat.le_of_ble_eq_true rfl)) dX7_slagRate_30 ⟨by decide, by decide⟩) hS_7 (fun r_14 Y_15 H_16 locs_17 hW_18 hS_19 h_13 => ?_)
    obtain ⟨h_13, hy_20⟩ := h_13
    replace hy_20 := hy_20.symm
    subst hy_20
    subst h_13
    refine lv_i2f hx hb dX7_slagRate_33 ?_
    refine lv_iload_n hx hb dX7_slagRate_34 rfl (lv_at hl_11 0 rfl) ?_
    refine lv_i2f hx hb dX7_slagRate_35 ?_
    refine lv_fdiv hx hb dX7_slagRate_36 (fl_n32 (fl_rate (sumW (X.1 0) 5) b_12)) ?_
    refine W.widen (k := 1) (n := 6) (by decide) (by decide) ?_
    refine vx_ret ?_
    exact g_fret C hr hlk hW_18 hS_19 dX7_slagRate_37 (by subst ev_9; exact ⟨⟨b_12, rfl⟩, rfl⟩)
  · exact g_thr0 C hst (ik := 224) (ic := 226) (names := ["java/lang/RuntimeException", "java/lang/Exception"]) hex hlk hl_11.1 (by decide) (by decide) (mc qk_AE) (mc qi_AE) (fun w hw => mc (qg_AE w hw)) qn_AE nest_on qo_AE dX7_slagRate_15 dX7_slagRate_18 dX7_slagRate_19 dX7_slagRate_22 (Nat.le_of_ble_eq_true rfl) (Nat.le_of_ble_eq_true rfl) (by decide) (by decide) (by decide) (by decide) hW_6 hS_7 (by subst ev_9; exact ⟨⟨rfl, b_12⟩, rfl⟩)
