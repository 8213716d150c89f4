/-! A furnace rendered, with the bound of the length (the proof of 22.render once more). -/
set_option maxHeartbeats 4000000 in
set_option maxRecDepth 100000 in
theorem cX7_renderFurnace9_ok (l : Launch) (G : GT) (hst : l.stackTraces = false) (X : St) (cp : Nat) (hcp : 16 ≤ cp ∧ cp ≤ 34) (hcap : X.2.2.1 = cp) (hcd : X.1 11 8 = 0) (n : Nat) (hcnt : X.1 11 10 = nI n) (hn : n ≤ cp) (hby : BOk X.2.2.2.1) (hmass : ∀ f, f < 3 → MassOk (X.1 0) (9 + 6 * f)) (x : Int32) : MetXI l G 7 yX7_renderFurnace (wsG yX7_renderFurnace cX7_renderFurnace 5 (some .int)) (rmk 7 8 1100) [.ref (ad G 715), .int x] X (fun res Y => (sOut x 3 = 0 ∧ res = nI (rfS (X.1 0) (9 + 6 * x.toNatClampNeg) X.2.2.2.1).1) ∧ ∃ (a9 c9 : Nat) (b9 : Nat → Int32), (16 ≤ c9 ∧ c9 ≤ 34 ∧ (rfS (X.1 0) (9 + 6 * x.toNatClampNeg) X.2.2.2.1).1 ≤ c9) ∧ (∀ j, j < (rfS (X.1 0) (9 + 6 * x.toNatClampNeg) X.2.2.2.1).1 → b9 j = (rfS (X.1 0) (9 + 6 * x.toNatClampNeg) X.2.2.2.1).2 j) ∧ BOk b9 ∧ Y = setRow (X.1, (a9, (c9, (b9, X.2.2.2.2)))) 11 (upd (slU (X.1 11) n) (10) (nI (rfS (X.1 0) (9 + 6 * x.toNatClampNeg) X.2.2.2.1).1))) (fun E Y => (E = "java/lang/IndexOutOfBoundsException" ∧ ¬ sOut x 3 = 0) ∧ Y = X) := by
  refine g_metX (cc := cX7_renderFurnace) (maxL := 5) (ret := (some .int)) (by decide) rfl (Nat.le_of_ble_eq_true rfl) ?_
  intro p e s m below meth c ls C hr hlk hex hW hl
  have hx := C.1.1
  have hb := C.1.2.1
  have hS : va_S (Ab G) s.heap s.heap [] := va_S.rf
  have hl : lv_has ls 5 [(0, .ref (ad G 715)), (1, .int x)] := hl
  refine lv_iload_n hx hb dX7_renderFurnace_0 rfl (lv_at hl 1 rfl) ?_
  refine lv_iconst (v := 3) hx hb dX7_renderFurnace_1 (by decide) ?_
  refine g_cxv (vx_runS (As := [.int x, .int 3]) (rest := []) C.1 (cX7_requireIndex_ok l G hst X x 3) (va_cwS 2 C.1.2.2.2.2 (gS qw_1078 qw_1079 qw_71 qw_1080) rfl rfl rfl (by decide +kernel) ⟨Nat.le_of_ble_eq_true rfl, Nat.le_of_ble_eq_true rfl⟩) (g_pre C hW hS [.int x, .int 3]) rfl rfl hl.1 rfl (lv_room (Nat.le_of_ble_eq_true rfl)) dX7_renderFurnace_2 ⟨by decide, by decide⟩) hS ?_ ?_
  · intro E9 ce9 q9 Y_2 H9 locs9 hW9 hS9 h_1 h91 h92 h93
    obtain ⟨⟨hE_5, b_4⟩, hy_3⟩ := h_1
    replace hy_3 := hy_3.symm
    subst hy_3
    subst hE_5
    exact g_out hex hlk hW9 hS9 (by exact ⟨⟨rfl, b_4⟩, rfl⟩) h91 h92 h93 (by decide) (by decide)
  intro Y_7 H_11 locs_12 hW_9 hS_10 h_6
  obtain ⟨b_14, hy_13⟩ := h_6
  replace hy_13 := hy_13.symm
  subst hy_13
  obtain ⟨f_15, hf_15, rfl⟩ := sOut_in3 b_14
  obtain ⟨m0, m1, m2, m3, tt, em0, em1, em2, em3, em4, hms, htt⟩ := hmass f_15 hf_15
  have dm0 := dg3 (show m0 ≤ 100 by omega)
  have dm1 := dg3 (show m1 ≤ 100 by omega)
  have dm2 := dg3 (show m2 ≤ 100 by omega)
  have dm3 := dg3 (show m3 ≤ 100 by omega)
  have dtt := dg4 (show tt ≤ 1500 by omega)
  refine lv_aload_n hx hb dX7_renderFurnace_5 rfl (lv_at hl 0 rfl) ?_
  refine gF_plant C hW_9 (hwc hwX7) (mc qw_287) dX7_renderFurnace_6 ?_
  refine gP_furnacesN C hW_9 h0_11 (hwc hwX4) nw_0 dX7_renderFurnace_9 ?_
  refine lv_iload_n hx hb dX7_renderFurnace_12 rfl (lv_at hl 1 rfl) ?_
  refine g_fur C hW_9 h0_11 f_15 (nI_clamp (by omega)) (vp_in_nI hf_15 (by decide)) dX7_renderFurnace_13 ?_
  refine lv_astore_n (lv' := [(2, .ref (ad G (65 * 0 + (11 + 3 * f_15)))), (0, .ref (ad G 715)), (1, .int (nI f_15))]) hx hb dX7_renderFurnace_14 rfl hl (by decide) rfl (fun ls_16 hl_17 => ?_)
  refine lv_aload_n hx hb dX7_renderFurnace_15 rfl (lv_at hl_17 1 rfl) ?_
  refine gF_output C hW_9 (hwc hwX7) (mc qw_294) dX7_renderFurnace_16 ?_
  refine lv_iconst (v := 0) hx hb dX7_renderFurnace_19 (by decide) ?_
  refine g_callv (va_runV (As := [.int 0]) (rest := []) C.1 (cJ4_setLength_d00df_ok l G X cp hcp hcap hcd n hcnt (by omega)) (cwV 1 C.1.2.2.2.2 (gV qw_389 qw_390 qw_391 qw_78 qw_392) rfl rfl rfl (by decide +kernel) ⟨Nat.le_of_ble_eq_true rfl, Nat.le_of_ble_eq_true rfl⟩) (g_rSB C hW_9 hS_10 [.int 0]) rfl rfl hl_17.1 rfl (lv_room (Nat.le_of_ble_eq_true rfl)) dX7_renderFurnace_20 ⟨by decide, by decide⟩) hS_10 (fun Y_19 H_21 locs_22 hW_23 hS_24 h_18 => ?_)
  obtain ⟨w_25, ew_25⟩ : ∃ Z9, Z9 = slR (X.1 11) n := ⟨_, rfl⟩
  have kn_26 : w_25 (8) = 0 := by rw [ew_25]; exact (slR_8 _ _).trans hcd
  have kn_27 : w_25 (10) = nI 0 := by rw [ew_25]; exact slR_10 _ _
  have hW_28 : Wd G (setRow X 11 w_25) H_21 := Wd.cast (by subst ew_25; exact h_18) hW_23
  refine lv_iconst (v := 0) hx hb dX7_renderFurnace_23 (by decide) ?_
  refine lv_istore_n (lv' := [(3, .int 0), (2, .ref (ad G (65 * 0 + (11 + 3 * f_15)))), (0, .ref (ad G 715)), (1, .int (nI f_15))]) hx hb dX7_renderFurnace_24 rfl hl_17 (by decide) rfl (fun ls_29 hl_30 => ?_)
  refine lv_iload_n hx hb dX7_renderFurnace_25 rfl (lv_at hl_30 0 rfl) ?_
  refine lv_iconst (v := 4) hx hb dX7_renderFurnace_26 (by decide) ?_
  refine lv_icmp_ge (tgt := 70) hx hb dX7_renderFurnace_27 (by decide) (fun h9 => absurd h9 (by decide)) (fun _ => ?_)
  refine lv_aload_n hx hb dX7_renderFurnace_30 rfl (lv_at hl_30 1 rfl) ?_
  refine g_contentN C hW_28 (ves_fur (G := G) h0_11 hf_15) (hwc hwX6) nw_1 dX7_renderFurnace_31 ?_
  refine g_massesN C hW_28 (ves_fur (G := G) h0_11 hf_15).mix (hwc hwX3) nw_2 dX7_renderFurnace_34 ?_
  refine lv_iload_n hx hb dX7_renderFurnace_37 rfl (lv_at hl_30 0 rfl) ?_
  refine g_mld C hW_28 (ves_fur (G := G) h0_11 hf_15).mix 0 (by decide) (vlit (by decide)) dX7_renderFurnace_38 ?_
  refine g_top (y := X.1 0 (9 + 6 * f_15 + 0)) (congrFun (rd_in (by decide) rfl) _) ?_
  refine g_top (y := nI m0) em0 ?_
  refine lv_istore (lv' := [(4, .int (nI m0)), (3, .int 0), (2, .ref (ad G (65 * 0 + (11 + 3 * f_15)))), (0, .ref (ad G 715)), (1, .int (nI f_15))]) hx hb dX7_renderFurnace_39 hl_30 (by decide) rfl (fun ls_31 hl_32 => ?_)
  refine lv_iload hx hb dX7_renderFurnace_41 (lv_at hl_32 0 rfl) ?_
  refine lv_if_le (tgt := 64) hx hb dX7_renderFurnace_43 (by decide) (fun b_33 => ?_) (fun b_33 => ?_)
  · have fb_33 : m0 ≤ 0 := (nI_leI (a := m0) (b := 0) (by omega) (by omega)).mp b_33
    refine lv_iinc (v := 1) (lv' := [(3, .int 1), (4, .int (nI m0)), (2, .ref (ad G (65 * 0 + (11 + 3 * f_15)))), (0, .ref (ad G 715)), (1, .int (nI f_15))]) hx hb dX7_renderFurnace_64 hl_32 (k := 1) rfl (by decide) (by decide) rfl (fun ls_34 hl_35 => ?_)
    refine lv_goto (tgt := 25) hx hb dX7_renderFurnace_67 (by decide) ?_
    refine lv_iload_n hx hb dX7_renderFurnace_25 rfl (lv_at hl_35 0 rfl) ?_
    refine lv_iconst (v := 4) hx hb dX7_renderFurnace_26 (by decide) ?_
    refine lv_icmp_ge (tgt := 70) hx hb dX7_renderFurnace_27 (by decide) (fun h9 => absurd h9 (by decide)) (fun _ => ?_)
    refine lv_aload_n hx hb dX7_renderFurnace_30 rfl (lv_at hl_35 2 rfl) ?_
    refine g_contentN C hW_28 (ves_fur (G := G) h0_11 hf_15) (hwc hwX6) nw_1 dX7_renderFurnace_31 ?_
    refine g_massesN C hW_28 (ves_fur (G := G) h0_11 hf_15).mix (hwc hwX3) nw_2 dX7_renderFurnace_34 ?_
    refine lv_iload_n hx hb dX7_renderFurnace_37 rfl (lv_at hl_35 0 rfl) ?_
    refine g_mld C hW_28 (ves_fur (G := G) h0_11 hf_15).mix 1 (by decide) (vlit (by decide)) dX7_renderFurnace_38 ?_
    refine g_top (y := X.1 0 (9 + 6 * f_15 + 1)) (congrFun (rd_in (by decide) rfl) _) ?_
    refine g_top (y := nI m1) em1 ?_
    refine lv_istore (lv' := [(4, .int (nI m1)), (3, .int 1), (2, .ref (ad G (65 * 0 + (11 + 3 * f_15)))), (0, .ref (ad G 715)), (1, .int (nI f_15))]) hx hb dX7_renderFurnace_39 hl_35 (by decide) rfl (fun ls_36 hl_37 => ?_)
    refine lv_iload hx hb dX7_renderFurnace_41 (lv_at hl_37 0 rfl) ?_
    refine lv_if_le (tgt := 64) hx hb dX7_renderFurnace_43 (by decide) (fun b_38 => ?_) (fun b_38 => ?_)
    · have fb_38 : m1 ≤ 0 := (nI_leI (a := m1) (b := 0) (by omega) (by omega)).mp b_38
      refine lv_iinc (v := 2) (lv' := [(3, .int 2), (4, .int (nI m1)), (2, .ref (ad G (65 * 0 + (11 + 3 * f_15)))), (0, .ref (ad G 715)), (1, .int (nI f_15))]) hx hb dX7_renderFurnace_64 hl_37 (k := 1) rfl (by decide) (by decide) rfl (fun ls_39 hl_40 => ?_)
      refine lv_goto (tgt := 25) hx hb dX7_renderFurnace_67 (by decide) ?_
      refine lv_iload_n hx hb dX7_renderFurnace_25 rfl (lv_at hl_40 0 rfl) ?_
      refine lv_iconst (v := 4) hx hb dX7_renderFurnace_26 (by decide) ?_
      refine lv_icmp_ge (tgt := 70) hx hb dX7_renderFurnace_27 (by decide) (fun h9 => absurd h9 (by decide)) (fun _ => ?_)
      refine lv_aload_n hx hb dX7_renderFurnace_30 rfl (lv_at hl_40 2 rfl) ?_
      refine g_contentN C hW_28 (ves_fur (G := G) h0_11 hf_15) (hwc hwX6) nw_1 dX7_renderFurnace_31 ?_
      refine g_massesN C hW_28 (ves_fur (G := G) h0_11 hf_15).mix (hwc hwX3) nw_2 dX7_renderFurnace_34 ?_
      refine lv_iload_n hx hb dX7_renderFurnace_37 rfl (lv_at hl_40 0 rfl) ?_
      refine g_mld C hW_28 (ves_fur (G := G) h0_11 hf_15).mix 2 (by decide) (vlit (by decide)) dX7_renderFurnace_38 ?_
      refine g_top (y := X.1 0 (9 + 6 * f_15 + 2)) (congrFun (rd_in (by decide) rfl) _) ?_
      refine g_top (y := nI m2) em2 ?_
      refine lv_istore (lv' := [(4, .int (nI m2)), (3, .int 2), (2, .ref (ad G (65 * 0 + (11 + 3 * f_15)))), (0, .ref (ad G 715)), (1, .int (nI f_15))]) hx hb dX7_renderFurnace_39 hl_40 (by decide) rfl (fun ls_41 hl_42 => ?_)
      refine lv_iload hx hb dX7_renderFurnace_41 (lv_at hl_42 0 rfl) ?_
      refine lv_if_le (tgt := 64) hx hb dX7_renderFurnace_43 (by decide) (fun b_43 => ?_) (fun b_43 => ?_)
      · have fb_43 : m2 ≤ 0 := (nI_leI (a := m2) (b := 0) (by omega) (by omega)).mp b_43
        refine lv_iinc (v := 3) (lv' := [(3, .int 3), (4, .int (nI m2)), (2, .ref (ad G (65 * 0 + (11 + 3 * f_15)))), (0, .ref (ad G 715)), (1, .int (nI f_15))]) hx hb dX7_renderFurnace_64 hl_42 (k := 1) rfl (by decide) (by decide) rfl (fun ls_44 hl_45 => ?_)
        refine lv_goto (tgt := 25) hx hb dX7_renderFurnace_67 (by decide) ?_
        refine lv_iload_n hx hb dX7_renderFurnace_25 rfl (lv_at hl_45 0 rfl) ?_
        refine lv_iconst (v := 4) hx hb dX7_renderFurnace_26 (by decide) ?_
        refine lv_icmp_ge (tgt := 70) hx hb dX7_renderFurnace_27 (by decide) (fun h9 => absurd h9 (by decide)) (fun _ => ?_)
        refine lv_aload_n hx hb dX7_renderFurnace_30 rfl (lv_at hl_45 2 rfl) ?_
        refine g_contentN C hW_28 (ves_fur (G := G) h0_11 hf_15) (hwc hwX6) nw_1 dX7_renderFurnace_31 ?_
        refine g_massesN C hW_28 (ves_fur (G := G) h0_11 hf_15).mix (hwc hwX3) nw_2 dX7_renderFurnace_34 ?_
        refine lv_iload_n hx hb dX7_renderFurnace_37 rfl (lv_at hl_45 0 rfl) ?_
        refine g_mld C hW_28 (ves_fur (G := G) h0_11 hf_15).mix 3 (by decide) (vlit (by decide)) dX7_renderFurnace_38 ?_
        refine g_top (y := X.1 0 (9 + 6 * f_15 + 3)) (congrFun (rd_in (by decide) rfl) _) ?_
        refine g_top (y := nI m3) em3 ?_
        refine lv_istore (lv' := [(4, .int (nI m3)), (3, .int 3), (2, .ref (ad G (65 * 0 + (11 + 3 * f_15)))), (0, .ref (ad G 715)), (1, .int (nI f_15))]) hx hb dX7_renderFurnace_39 hl_45 (by decide) rfl (fun ls_46 hl_47 => ?_)
        refine lv_iload hx hb dX7_renderFurnace_41 (lv_at hl_47 0 rfl) ?_
        refine lv_if_le (tgt := 64) hx hb dX7_renderFurnace_43 (by decide) (fun b_48 => ?_) (fun b_48 => ?_)
        · have fb_48 : m3 ≤ 0 := (nI_leI (a := m3) (b := 0) (by omega) (by omega)).mp b_48
          refine lv_iinc (v := 4) (lv' := [(3, .int 4), (4, .int (nI m3)), (2, .ref (ad G (65 * 0 + (11 + 3 * f_15)))), (0, .ref (ad G 715)), (1, .int (nI f_15))]) hx hb dX7_renderFurnace_64 hl_47 (k := 1) rfl (by decide) (by decide) rfl (fun ls_49 hl_50 => ?_)
          refine lv_goto (tgt := 25) hx hb dX7_renderFurnace_67 (by decide) ?_
          refine lv_iload_n hx hb dX7_renderFurnace_25 rfl (lv_at hl_50 0 rfl) ?_
          refine lv_iconst (v := 4) hx hb dX7_renderFurnace_26 (by decide) ?_
          refine lv_icmp_ge (tgt := 70) hx hb dX7_renderFurnace_27 (by decide) (fun _ => ?_) (fun h9 => absurd h9 (by decide))
          refine lv_aload_n hx hb dX7_renderFurnace_70 rfl (lv_at hl_50 3 rfl) ?_
          refine gF_output C hW_28 (hwc hwX7) (mc qw_294) dX7_renderFurnace_71 ?_
          refine lv_bipush (v := 64) hx hb dX7_renderFurnace_74 (by decide) ?_
          refine g_callr (va_runV (As := [.int 64]) (rest := []) C.1 (cJ4_append_cf468_ok l G (setRow X 11 w_25) cp hcp hcap ((congrFun rd_out _).trans kn_26) 0 ((congrFun rd_out _).trans kn_27) (by omega) 64 (by decide)) (cwV 1 C.1.2.2.2.2 (gV qw_745 qw_746 qw_747 qw_78 qw_748) rfl rfl rfl (by decide +kernel) ⟨Nat.le_of_ble_eq_true rfl, Nat.le_of_ble_eq_true rfl⟩) (g_rSB C hW_28 hS_24 [.int 64]) rfl rfl hl_50.1 rfl (lv_room (Nat.le_of_ble_eq_true rfl)) dX7_renderFurnace_76 ⟨by decide, by decide⟩) hS_24 (fun r_53 Y_52 H_54 locs_55 hW_56 hS_57 h_51 => ?_)
          obtain ⟨hr_58, hy_59⟩ := h_51
          dsimp only at hr_58 hy_59
          subst hr_58
          obtain ⟨w_61, ew_61⟩ : ∃ Z9, Z9 = upd X.2.2.2.1 0 (nI 64) := ⟨_, rfl⟩
          obtain ⟨w_60, ew_60⟩ : ∃ Z9, Z9 = upd w_25 (10) (nI (0 + 1)) := ⟨_, rfl⟩
          have kn_62 : w_60 (8) = 0 := by rw [ew_60]; exact (pk_un (by omega)).trans kn_26
          have kn_63 : w_60 (10) = nI (0 + 1) := by rw [ew_60]; exact pk_us
          have hW_64 : Wd G (setRow (sbB X w_61) 11 w_60) H_54 := Wd.cast (by subst ew_60 ew_61; exact hy_59.trans sb_out1) hW_56
          refine lv_aload_n hx hb dX7_renderFurnace_79 rfl (lv_at hl_50 2 rfl) ?_
          refine g_tempN C hW_64 (ves_fur (G := G) h0_11 hf_15) (hwc hwX6) nw_3 dX7_renderFurnace_80 ?_
          refine g_top (y := X.1 0 (9 + 6 * f_15 + 4)) (congrFun (rd_in (by decide) rfl) _) ?_
          refine g_top (y := nI tt) em4 ?_
          refine g_callr (va_runV (As := [.int (nI tt)]) (rest := []) C.1 (cJ4_append_bf812_ok l G (setRow (sbB X w_61) 11 w_60) cp hcp hcap ((congrFun rd_out _).trans kn_62) (0 + 1) ((congrFun rd_out _).trans kn_63) tt (show tt < 10000 by omega) (show 0 + 1 + sb_dg tt ≤ cp by omega)) (cwV 1 C.1.2.2.2.2 (gV qw_1319 qw_525 qw_526 qw_78 qw_527) rfl rfl rfl (by decide +kernel) ⟨Nat.le_of_ble_eq_true rfl, Nat.le_of_ble_eq_true rfl⟩) (g_rSB C hW_64 hS_57 [.int (nI tt)]) rfl rfl hl_50.1 rfl (lv_room (Nat.le_of_ble_eq_true rfl)) dX7_renderFurnace_83 ⟨by decide, by decide⟩) hS_57 (fun r_67 Y_66 H_68 locs_69 hW_70 hS_71 h_65 => ?_)
          obtain ⟨hr_72, hy_73⟩ := h_65
          dsimp only at hr_72 hy_73
          subst hr_72
          obtain ⟨w_75, ew_75⟩ : ∃ Z9, Z9 = decR w_61 (0 + 1) tt := ⟨_, rfl⟩
          obtain ⟨w_74, ew_74⟩ : ∃ Z9, Z9 = upd w_60 (10) (nI (0 + 1 + sb_dg tt)) := ⟨_, rfl⟩
          have kn_76 : w_74 (8) = 0 := by rw [ew_74]; exact (pk_un (by omega)).trans kn_62
          have kn_77 : w_74 (10) = nI (0 + 1 + sb_dg tt) := by rw [ew_74]; exact pk_us
          have hW_78 : Wd G (setRow (sbB X w_75) 11 w_74) H_68 := Wd.cast (by subst ew_74 ew_75; exact hy_73.trans sb_out) hW_70
          refine lv_pop hx hb dX7_renderFurnace_86 rfl ?_
          refine lv_aload_n hx hb dX7_renderFurnace_87 rfl (lv_at hl_50 3 rfl) ?_
          refine gF_output C hW_78 (hwc hwX7) (mc qw_294) dX7_renderFurnace_88 ?_
          refine g_calli (va_runV (As := []) (rest := []) C.1 (cJ4_length_8abf5_ok l G (setRow (sbB X w_75) 11 w_74) (0 + 1 + sb_dg tt) ((congrFun rd_out _).trans kn_77)) (cwV 0 C.1.2.2.2.2 (gV qw_767 qw_571 qw_1956 qw_78 qw_572) rfl rfl rfl (by decide +kernel) ⟨Nat.le_of_ble_eq_true rfl, Nat.le_of_ble_eq_true rfl⟩) (g_rSB C hW_78 hS_71 []) rfl rfl hl_50.1 rfl (lv_room (Nat.le_of_ble_eq_true rfl)) dX7_renderFurnace_91 ⟨by decide, by decide⟩) hS_71 (fun r_81 Y_80 H_82 locs_83 hW_84 hS_85 h_79 => ?_)
          obtain ⟨h_79, hy_86⟩ := h_79
          replace hy_86 := hy_86.symm
          subst hy_86
          subst h_79
          refine W.widen (k := 7) (n := 42) (by decide) (by decide) ?_
          refine vx_ret ?_
          exact g_iret C hr hlk hW_84 hS_85 dX7_renderFurnace_94 (by have e9 : rfS (X.1 0) (9 + 6 * (nI f_15).toNatClampNeg) X.2.2.2.1 = (0 + 1 + sb_dg tt, w_75) := (by subst ew_74; subst ew_75; subst ew_60; subst ew_61; subst ew_25; simp only [rfS, rfM, ltN, clf (show f_15 < 2 ^ 31 by omega), em0, em1, em2, em3, em4, clf (show m0 < 2 ^ 31 by omega), clf (show m1 < 2 ^ 31 by omega), clf (show m2 < 2 ^ 31 by omega), clf (show m3 < 2 ^ 31 by omega), clf (show tt < 2 ^ 31 by omega), b_33, b_38, b_43, b_48, if_true, if_false]); subst ew_74; subst ew_75; subst ew_60; subst ew_61; subst ew_25; exact ⟨⟨b_14, by rw [e9]⟩, X.2.1, X.2.2.1, _, by rw [hcap, e9]; exact ⟨hcp.1, hcp.2, by dsimp only; omega⟩, fun j _ => rfl, (BOk_rfS hby (by rw [clf (show f_15 < 2 ^ 31 by omega)]; exact mass_small (hmass f_15 hf_15))), by rw [e9]; simp only [slR_eq, uu10]⟩)
        · have fb_48 : ¬ m3 ≤ 0 := fun q9 => b_48 ((nI_leI (a := m3) (b := 0) (by omega) (by omega)).mpr q9)
          refine lv_aload_n hx hb dX7_renderFurnace_46 rfl (lv_at hl_47 3 rfl) ?_
          refine gF_output C hW_28 (hwc hwX7) (mc qw_294) dX7_renderFurnace_47 ?_
          refine g_ltS C hS_24 (mc qw_831) dX7_renderFurnace_50 ?_
          refine lv_iload_n hx hb dX7_renderFurnace_53 rfl (lv_at hl_47 1 rfl) ?_
          refine g_lt (v := 111) C hS_24 (vlit (by decide)) rfl dX7_renderFurnace_54 ?_
          refine g_callr (va_runV (As := [.int 111]) (rest := []) C.1 (cJ4_append_cf468_ok l G (setRow X 11 w_25) cp hcp hcap ((congrFun rd_out _).trans kn_26) 0 ((congrFun rd_out _).trans kn_27) (by omega) 111 (by decide)) (cwV 1 C.1.2.2.2.2 (gV qw_745 qw_746 qw_747 qw_78 qw_748) rfl rfl rfl (by decide +kernel) ⟨Nat.le_of_ble_eq_true rfl, Nat.le_of_ble_eq_true rfl⟩) (g_rSB C hW_28 hS_24 [.int 111]) rfl rfl hl_47.1 rfl (lv_room (Nat.le_of_ble_eq_true rfl)) dX7_renderFurnace_55 ⟨by decide, by decide⟩) hS_24 (fun r_89 Y_88 H_90 locs_91 hW_92 hS_93 h_87 => ?_)
          obtain ⟨hr_94, hy_95⟩ := h_87
          dsimp only at hr_94 hy_95
          subst hr_94
          obtain ⟨w_97, ew_97⟩ : ∃ Z9, Z9 = upd X.2.2.2.1 0 (nI 111) := ⟨_, rfl⟩
          obtain ⟨w_96, ew_96⟩ : ∃ Z9, Z9 = upd w_25 (10) (nI (0 + 1)) := ⟨_, rfl⟩
          have kn_98 : w_96 (8) = 0 := by rw [ew_96]; exact (pk_un (by omega)).trans kn_26
          have kn_99 : w_96 (10) = nI (0 + 1) := by rw [ew_96]; exact pk_us
          have hW_100 : Wd G (setRow (sbB X w_97) 11 w_96) H_90 := Wd.cast (by subst ew_96 ew_97; exact hy_95.trans sb_out1) hW_92
          refine lv_iload hx hb dX7_renderFurnace_58 (lv_at hl_47 0 rfl) ?_
          refine g_callr (va_runV (As := [.int (nI m3)]) (rest := []) C.1 (cJ4_append_bf812_ok l G (setRow (sbB X w_97) 11 w_96) cp hcp hcap ((congrFun rd_out _).trans kn_98) (0 + 1) ((congrFun rd_out _).trans kn_99) m3 (show m3 < 10000 by omega) (show 0 + 1 + sb_dg m3 ≤ cp by omega)) (cwV 1 C.1.2.2.2.2 (gV qw_1319 qw_525 qw_526 qw_78 qw_527) rfl rfl rfl (by decide +kernel) ⟨Nat.le_of_ble_eq_true rfl, Nat.le_of_ble_eq_true rfl⟩) (g_rSB C hW_100 hS_93 [.int (nI m3)]) rfl rfl hl_47.1 rfl (lv_room (Nat.le_of_ble_eq_true rfl)) dX7_renderFurnace_60 ⟨by decide, by decide⟩) hS_93 (fun r_103 Y_102 H_104 locs_105 hW_106 hS_107 h_101 => ?_)
          obtain ⟨hr_108, hy_109⟩ := h_101
          dsimp only at hr_108 hy_109
          subst hr_108
          obtain ⟨w_111, ew_111⟩ : ∃ Z9, Z9 = decR w_97 (0 + 1) m3 := ⟨_, rfl⟩
          obtain ⟨w_110, ew_110⟩ : ∃ Z9, Z9 = upd w_96 (10) (nI (0 + 1 + sb_dg m3)) := ⟨_, rfl⟩
          have kn_112 : w_110 (8) = 0 := by rw [ew_110]; exact (pk_un (by omega)).trans kn_98
          have kn_113 : w_110 (10) = nI (0 + 1 + sb_dg m3) := by rw [ew_110]; exact pk_us
          have hW_114 : Wd G (setRow (sbB X w_111) 11 w_110) H_104 := Wd.cast (by subst ew_110 ew_111; exact hy_109.trans sb_out) hW_106
          refine lv_pop hx hb dX7_renderFurnace_63 rfl ?_
          refine lv_iinc (v := 4) (lv' := [(3, .int 4), (4, .int (nI m3)), (2, .ref (ad G (65 * 0 + (11 + 3 * f_15)))), (0, .ref (ad G 715)), (1, .int (nI f_15))]) hx hb dX7_renderFurnace_64 hl_47 (k := 1) rfl (by decide) (by decide) rfl (fun ls_115 hl_116 => ?_)
          refine lv_goto (tgt := 25) hx hb dX7_renderFurnace_67 (by decide) ?_
          refine lv_iload_n hx hb dX7_renderFurnace_25 rfl (lv_at hl_116 0 rfl) ?_
          refine lv_iconst (v := 4) hx hb dX7_renderFurnace_26 (by decide) ?_
          refine lv_icmp_ge (tgt := 70) hx hb dX7_renderFurnace_27 (by decide) (fun _ => ?_) (fun h9 => absurd h9 (by decide))
          refine lv_aload_n hx hb dX7_renderFurnace_70 rfl (lv_at hl_116 3 rfl) ?_
          refine gF_output C hW_114 (hwc hwX7) (mc qw_294) dX7_renderFurnace_71 ?_
          refine lv_bipush (v := 64) hx hb dX7_renderFurnace_74 (by decide) ?_
          refine g_callr (va_runV (As := [.int 64]) (rest := []) C.1 (cJ4_append_cf468_ok l G (setRow (sbB X w_111) 11 w_110) cp hcp hcap ((congrFun rd_out _).trans kn_112) (0 + 1 + sb_dg m3) ((congrFun rd_out _).trans kn_113) (by omega) 64 (by decide)) (cwV 1 C.1.2.2.2.2 (gV qw_745 qw_746 qw_747 qw_78 qw_748) rfl rfl rfl (by decide +kernel) ⟨Nat.le_of_ble_eq_true rfl, Nat.le_of_ble_eq_true rfl⟩) (g_rSB C hW_114 hS_107 [.int 64]) rfl rfl hl_116.1 rfl (lv_room (Nat.le_of_ble_eq_true rfl)) dX7_renderFurnace_76 ⟨by decide, by decide⟩) hS_107 (fun r_119 Y_118 H_120 locs_121 hW_122 hS_123 h_117 => ?_)
          obtain ⟨hr_124, hy_125⟩ := h_117
          dsimp only at hr_124 hy_125
          subst hr_124
          obtain ⟨w_127, ew_127⟩ : ∃ Z9, Z9 = upd w_111 (0 + 1 + sb_dg m3) (nI 64) := ⟨_, rfl⟩
          obtain ⟨w_126, ew_126⟩ : ∃ Z9, Z9 = upd w_110 (10) (nI (0 + 1 + sb_dg m3 + 1)) := ⟨_, rfl⟩
          have kn_128 : w_126 (8) = 0 := by rw [ew_126]; exact (pk_un (by omega)).trans kn_112
          have kn_129 : w_126 (10) = nI (0 + 1 + sb_dg m3 + 1) := by rw [ew_126]; exact pk_us
          have hW_130 : Wd G (setRow (sbB X w_127) 11 w_126) H_120 := Wd.cast (by subst ew_126 ew_127; exact hy_125.trans sb_out) hW_122
          refine lv_aload_n hx hb dX7_renderFurnace_79 rfl (lv_at hl_116 2 rfl) ?_
          refine g_tempN C hW_130 (ves_fur (G := G) h0_11 hf_15) (hwc hwX6) nw_3 dX7_renderFurnace_80 ?_
          refine g_top (y := X.1 0 (9 + 6 * f_15 + 4)) (congrFun (rd_in (by decide) rfl) _) ?_
          refine g_top (y := nI tt) em4 ?_
          refine g_callr (va_runV (As := [.int (nI tt)]) (rest := []) C.1 (cJ4_append_bf812_ok l G (setRow (sbB X w_127) 11 w_126) cp hcp hcap ((congrFun rd_out _).trans kn_128) (0 + 1 + sb_dg m3 + 1) ((congrFun rd_out _).trans kn_129) tt (show tt < 10000 by omega) (show 0 + 1 + sb_dg m3 + 1 + sb_dg tt ≤ cp by omega)) (cwV 1 C.1.2.2.2.2 (gV qw_1319 qw_525 qw_526 qw_78 qw_527) rfl rfl rfl (by decide +kernel) ⟨Nat.le_of_ble_eq_true rfl, Nat.le_of_ble_eq_true rfl⟩) (g_rSB C hW_130 hS_123 [.int (nI tt)]) rfl rfl hl_116.1 rfl (lv_room (Nat.le_of_ble_eq_true rfl)) dX7_renderFurnace_83 ⟨by decide, by decide⟩) hS_123 (fun r_133 Y_132 H_134 locs_135 hW_136 hS_137 h_131 => ?_)
          obtain ⟨hr_138, hy_139⟩ := h_131
          dsimp only at hr_138 hy_139
          subst hr_138
          obtain ⟨w_141, ew_141⟩ : ∃ Z9, Z9 = decR w_127 (0 + 1 + sb_dg m3 + 1) tt := ⟨_, rfl⟩
          obtain ⟨w_140, ew_140⟩ : ∃ Z9, Z9 = upd w_126 (10) (nI (0 + 1 + sb_dg m3 + 1 + sb_dg tt)) := ⟨_, rfl⟩
          have kn_142 : w_140 (8) = 0 := by rw [ew_140]; exact (pk_un (by omega)).trans kn_128
          have kn_143 : w_140 (10) = nI (0 + 1 + sb_dg m3 + 1 + sb_dg tt) := by rw [ew_140]; exact pk_us
          have hW_144 : Wd G (setRow (sbB X w_141) 11 w_140) H_134 := Wd.cast (by subst ew_140 ew_141; exact hy_139.trans sb_out) hW_136
          refine lv_pop hx hb dX7_renderFurnace_86 rfl ?_
          refine lv_aload_n hx hb dX7_renderFurnace_87 rfl (lv_at hl_116 3 rfl) ?_
          refine gF_output C hW_144 (hwc hwX7) (mc qw_294) dX7_renderFurnace_88 ?_
          refine g_calli (va_runV (As := []) (rest := []) C.1 (cJ4_length_8abf5_ok l G (setRow (sbB X w_141) 11 w_140) (0 + 1 + sb_dg m3 + 1 + sb_dg tt) ((congrFun rd_out _).trans kn_143)) (cwV 0 C.1.2.2.2.2 (gV qw_767 qw_571 qw_1956 qw_78 qw_572) rfl rfl rfl (by decide +kernel) ⟨Nat.le_of_ble_eq_true rfl, Nat.le_of_ble_eq_true rfl⟩) (g_rSB C hW_144 hS_137 []) rfl rfl hl_116.1 rfl (lv_room (Nat.le_of_ble_eq_true rfl)) dX7_renderFurnace_91 ⟨by decide, by decide⟩) hS_137 (fun r_147 Y_146 H_148 locs_149 hW_150 hS_151 h_145 => ?_)
          obtain ⟨h_145, hy_152⟩ := h_145
          replace hy_152 := hy_152.symm
          subst hy_152
          subst h_145
          refine W.widen (k := 7) (n := 42) (by decide) (by decide) ?_
          refine vx_ret ?_
          exact g_iret C hr hlk hW_150 hS_151 dX7_renderFurnace_94 (by have e9 : rfS (X.1 0) (9 + 6 * (nI f_15).toNatClampNeg) X.2.2.2.1 = (0 + 1 + sb_dg m3 + 1 + sb_dg tt, w_141) := (by subst ew_140; subst ew_141; subst ew_126; subst ew_127; subst ew_110; subst ew_111; subst ew_96; subst ew_97; subst ew_25; simp only [rfS, rfM, ltN, clf (show f_15 < 2 ^ 31 by omega), em0, em1, em2, em3, em4, clf (show m0 < 2 ^ 31 by omega), clf (show m1 < 2 ^ 31 by omega), clf (show m2 < 2 ^ 31 by omega), clf (show m3 < 2 ^ 31 by omega), clf (show tt < 2 ^ 31 by omega), b_33, b_38, b_43, b_48, if_true, if_false]); subst ew_140; subst ew_141; subst ew_126; subst ew_127; subst ew_110; subst ew_111; subst ew_96; subst ew_97; subst ew_25; exact ⟨⟨b_14, by rw [e9]⟩, X.2.1, X.2.2.1, _, by rw [hcap, e9]; exact ⟨hcp.1, hcp.2, by dsimp only; omega⟩, fun j _ => rfl, (BOk_rfS hby (by rw [clf (show f_15 < 2 ^ 31 by omega)]; exact mass_small (hmass f_15 hf_15))), by rw [e9]; simp only [slR_eq, uu10]⟩)
      · have fb_43 : ¬ m2 ≤ 0 := fun q9 => b_43 ((nI_leI (a := m2) (b := 0) (by omega) (by omega)).mpr q9)
        refine lv_aload_n hx hb dX7_renderFurnace_46 rfl (lv_at hl_42 3 rfl) ?_
        refine gF_output C hW_28 (hwc hwX7) (mc qw_294) dX7_renderFurnace_47 ?_
        refine g_ltS C hS_24 (mc qw_831) dX7_renderFurnace_50 ?_
        refine lv_iload_n hx hb dX7_renderFurnace_53 rfl (lv_at hl_42 1 rfl) ?_
        refine g_lt (v := 108) C hS_24 (vlit (by decide)) rfl dX7_renderFurnace_54 ?_
        refine g_callr (va_runV (As := [.int 108]) (rest := []) C.1 (cJ4_append_cf468_ok l G (setRow X 11 w_25) cp hcp hcap ((congrFun rd_out _).trans kn_26) 0 ((congrFun rd_out _).trans kn_27) (by omega) 108 (by decide)) (cwV 1 C.1.2.2.2.2 (gV qw_745 qw_746 qw_747 qw_78 qw_748) rfl rfl rfl (by decide +kernel) ⟨Nat.le_of_ble_eq_true rfl, Nat.le_of_ble_eq_true rfl⟩) (g_rSB C hW_28 hS_24 [.int 108]) rfl rfl hl_42.1 rfl (lv_room (Nat.le_of_ble_eq_true rfl)) dX7_renderFurnace_55 ⟨by decide, by decide⟩) hS_24 (fun r_155 Y_154 H_156 locs_157 hW_158 hS_159 h_153 => ?_)
        obtain ⟨hr_160, hy_161⟩ := h_153
        dsimp only at hr_160 hy_161
        subst hr_160
        obtain ⟨w_163, ew_163⟩ : ∃ Z9, Z9 = upd X.2.2.2.1 0 (nI 108) := ⟨_, rfl⟩
        obtain ⟨w_162, ew_162⟩ : ∃ Z9, Z9 = upd w_25 (10) (nI (0 + 1)) := ⟨_, rfl⟩
        have kn_164 : w_162 (8) = 0 := by rw [ew_162]; exact (pk_un (by omega)).trans kn_26
        have kn_165 : w_162 (10) = nI (0 + 1) := by rw [ew_162]; exact pk_us
        have hW_166 : Wd G (setRow (sbB X w_163) 11 w_162) H_156 := Wd.cast (by subst ew_162 ew_163; exact hy_161.trans sb_out1) hW_158
        refine lv_iload hx hb dX7_renderFurnace_58 (lv_at hl_42 0 rfl) ?_
        refine g_callr (va_runV (As := [.int (nI m2)]) (rest := []) C.1 (cJ4_append_bf812_ok l G (setRow (sbB X w_163) 11 w_162) cp hcp hcap ((congrFun rd_out _).trans kn_164) (0 + 1) ((congrFun rd_out _).trans kn_165) m2 (show m2 < 10000 by omega) (show 0 + 1 + sb_dg m2 ≤ cp by omega)) (cwV 1 C.1.2.2.2.2 (gV qw_1319 qw_525 qw_526 qw_78 qw_527) rfl rfl rfl (by decide +kernel) ⟨Nat.le_of_ble_eq_true rfl, Nat.le_of_ble_eq_true rfl⟩) (g_rSB C hW_166 hS_159 [.int (nI m2)]) rfl rfl hl_42.1 rfl (lv_room (Nat.le_of_ble_eq_true rfl)) dX7_renderFurnace_60 ⟨by decide, by decide⟩) hS_159 (fun r_169 Y_168 H_170 locs_171 hW_172 hS_173 h_167 => ?_)
        obtain ⟨hr_174, hy_175⟩ := h_167
        dsimp only at hr_174 hy_175
        subst hr_174
        obtain ⟨w_177, ew_177⟩ : ∃ Z9, Z9 = decR w_163 (0 + 1) m2 := ⟨_, rfl⟩
        obtain ⟨w_176, ew_176⟩ : ∃ Z9, Z9 = upd w_162 (10) (nI (0 + 1 + sb_dg m2)) := ⟨_, rfl⟩
        have kn_178 : w_176 (8) = 0 := by rw [ew_176]; exact (pk_un (by omega)).trans kn_164
        have kn_179 : w_176 (10) = nI (0 + 1 + sb_dg m2) := by rw [ew_176]; exact pk_us
        have hW_180 : Wd G (setRow (sbB X w_177) 11 w_176) H_170 := Wd.cast (by subst ew_176 ew_177; exact hy_175.trans sb_out) hW_172
        refine lv_pop hx hb dX7_renderFurnace_63 rfl ?_
        refine lv_iinc (v := 3) (lv' := [(3, .int 3), (4, .int (nI m2)), (2, .ref (ad G (65 * 0 + (11 + 3 * f_15)))), (0, .ref (ad G 715)), (1, .int (nI f_15))]) hx hb dX7_renderFurnace_64 hl_42 (k := 1) rfl (by decide) (by decide) rfl (fun ls_181 hl_182 => ?_)
        refine lv_goto (tgt := 25) hx hb dX7_renderFurnace_67 (by decide) ?_
        refine lv_iload_n hx hb dX7_renderFurnace_25 rfl (lv_at hl_182 0 rfl) ?_
        refine lv_iconst (v := 4) hx hb dX7_renderFurnace_26 (by decide) ?_
        refine lv_icmp_ge (tgt := 70) hx hb dX7_renderFurnace_27 (by decide) (fun h9 => absurd h9 (by decide)) (fun _ => ?_)
        refine lv_aload_n hx hb dX7_renderFurnace_30 rfl (lv_at hl_182 2 rfl) ?_
        refine g_contentN C hW_180 (ves_fur (G := G) h0_11 hf_15) (hwc hwX6) nw_1 dX7_renderFurnace_31 ?_
        refine g_massesN C hW_180 (ves_fur (G := G) h0_11 hf_15).mix (hwc hwX3) nw_2 dX7_renderFurnace_34 ?_
        refine lv_iload_n hx hb dX7_renderFurnace_37 rfl (lv_at hl_182 0 rfl) ?_
        refine g_mld C hW_180 (ves_fur (G := G) h0_11 hf_15).mix 3 (by decide) (vlit (by decide)) dX7_renderFurnace_38 ?_
        refine g_top (y := X.1 0 (9 + 6 * f_15 + 3)) (congrFun (rd_in (by decide) rfl) _) ?_
        refine g_top (y := nI m3) em3 ?_
        refine lv_istore (lv' := [(4, .int (nI m3)), (3, .int 3), (2, .ref (ad G (65 * 0 + (11 + 3 * f_15)))), (0, .ref (ad G 715)), (1, .int (nI f_15))]) hx hb dX7_renderFurnace_39 hl_182 (by decide) rfl (fun ls_183 hl_184 => ?_)
        refine lv_iload hx hb dX7_renderFurnace_41 (lv_at hl_184 0 rfl) ?_
        refine lv_if_le (tgt := 64) hx hb dX7_renderFurnace_43 (by decide) (fun b_185 => ?_) (fun b_185 => ?_)
        · have fb_185 : m3 ≤ 0 := (nI_leI (a := m3) (b := 0) (by omega) (by omega)).mp b_185
          refine lv_iinc (v := 4) (lv' := [(3, .int 4), (4, .int (nI m3)), (2, .ref (ad G (65 * 0 + (11 + 3 * f_15)))), (0, .ref (ad G 715)), (1, .int (nI f_15))]) hx hb dX7_renderFurnace_64 hl_184 (k := 1) rfl (by decide) (by decide) rfl (fun ls_186 hl_187 => ?_)
          refine lv_goto (tgt := 25) hx hb dX7_renderFurnace_67 (by decide) ?_
          refine lv_iload_n hx hb dX7_renderFurnace_25 rfl (lv_at hl_187 0 rfl) ?_
          refine lv_iconst (v := 4) hx hb dX7_renderFurnace_26 (by decide) ?_
          refine lv_icmp_ge (tgt := 70) hx hb dX7_renderFurnace_27 (by decide) (fun _ => ?_) (fun h9 => absurd h9 (by decide))
          refine lv_aload_n hx hb dX7_renderFurnace_70 rfl (lv_at hl_187 3 rfl) ?_
          refine gF_output C hW_180 (hwc hwX7) (mc qw_294) dX7_renderFurnace_71 ?_
          refine lv_bipush (v := 64) hx hb dX7_renderFurnace_74 (by decide) ?_
          refine g_callr (va_runV (As := [.int 64]) (rest := []) C.1 (cJ4_append_cf468_ok l G (setRow (sbB X w_177) 11 w_176) cp hcp hcap ((congrFun rd_out _).trans kn_178) (0 + 1 + sb_dg m2) ((congrFun rd_out _).trans kn_179) (by omega) 64 (by decide)) (cwV 1 C.1.2.2.2.2 (gV qw_745 qw_746 qw_747 qw_78 qw_748) rfl rfl rfl (by decide +kernel) ⟨Nat.le_of_ble_eq_true rfl, Nat.le_of_ble_eq_true rfl⟩) (g_rSB C hW_180 hS_173 [.int 64]) rfl rfl hl_187.1 rfl (lv_room (Nat.le_of_ble_eq_true rfl)) dX7_renderFurnace_76 ⟨by decide, by decide⟩) hS_173 (fun r_190 Y_189 H_191 locs_192 hW_193 hS_194 h_188 => ?_)
          obtain ⟨hr_195, hy_196⟩ := h_188
          dsimp only at hr_195 hy_196
          subst hr_195
          obtain ⟨w_198, ew_198⟩ : ∃ Z9, Z9 = upd w_177 (0 + 1 + sb_dg m2) (nI 64) := ⟨_, rfl⟩
          obtain ⟨w_197, ew_197⟩ : ∃ Z9, Z9 = upd w_176 (10) (nI (0 + 1 + sb_dg m2 + 1)) := ⟨_, rfl⟩
          have kn_199 : w_197 (8) = 0 := by rw [ew_197]; exact (pk_un (by omega)).trans kn_178
          have kn_200 : w_197 (10) = nI (0 + 1 + sb_dg m2 + 1) := by rw [ew_197]; exact pk_us
          have hW_201 : Wd G (setRow (sbB X w_198) 11 w_197) H_191 := Wd.cast (by subst ew_197 ew_198; exact hy_196.trans sb_out) hW_193
          refine lv_aload_n hx hb dX7_renderFurnace_79 rfl (lv_at hl_187 2 rfl) ?_
          refine g_tempN C hW_201 (ves_fur (G := G) h0_11 hf_15) (hwc hwX6) nw_3 dX7_renderFurnace_80 ?_
          refine g_top (y := X.1 0 (9 + 6 * f_15 + 4)) (congrFun (rd_in (by decide) rfl) _) ?_
          refine g_top (y := nI tt) em4 ?_
          refine g_callr (va_runV (As := [.int (nI tt)]) (rest := []) C.1 (cJ4_append_bf812_ok l G (setRow (sbB X w_198) 11 w_197) cp hcp hcap ((congrFun rd_out _).trans kn_199) (0 + 1 + sb_dg m2 + 1) ((congrFun rd_out _).trans kn_200) tt (show tt < 10000 by omega) (show 0 + 1 + sb_dg m2 + 1 + sb_dg tt ≤ cp by omega)) (cwV 1 C.1.2.2.2.2 (gV qw_1319 qw_525 qw_526 qw_78 qw_527) rfl rfl rfl (by decide +kernel) ⟨Nat.le_of_ble_eq_true rfl, Nat.le_of_ble_eq_true rfl⟩) (g_rSB C hW_201 hS_194 [.int (nI tt)]) rfl rfl hl_187.1 rfl (lv_room (Nat.le_of_ble_eq_true rfl)) dX7_renderFurnace_83 ⟨by decide, by decide⟩) hS_194 (fun r_204 Y_203 H_205 locs_206 hW_207 hS_208 h_202 => ?_)
          obtain ⟨hr_209, hy_210⟩ := h_202
          dsimp only at hr_209 hy_210
          subst hr_209
          obtain ⟨w_212, ew_212⟩ : ∃ Z9, Z9 = decR w_198 (0 + 1 + sb_dg m2 + 1) tt := ⟨_, rfl⟩
          obtain ⟨w_211, ew_211⟩ : ∃ Z9, Z9 = upd w_197 (10) (nI (0 + 1 + sb_dg m2 + 1 + sb_dg tt)) := ⟨_, rfl⟩
          have kn_213 : w_211 (8) = 0 := by rw [ew_211]; exact (pk_un (by omega)).trans kn_199
          have kn_214 : w_211 (10) = nI (0 + 1 + sb_dg m2 + 1 + sb_dg tt) := by rw [ew_211]; exact pk_us
          have hW_215 : Wd G (setRow (sbB X w_212) 11 w_211) H_205 := Wd.cast (by subst ew_211 ew_212; exact hy_210.trans sb_out) hW_207
          refine lv_pop hx hb dX7_renderFurnace_86 rfl ?_
          refine lv_aload_n hx hb dX7_renderFurnace_87 rfl (lv_at hl_187 3 rfl) ?_
          refine gF_output C hW_215 (hwc hwX7) (mc qw_294) dX7_renderFurnace_88 ?_
          refine g_calli (va_runV (As := []) (rest := []) C.1 (cJ4_length_8abf5_ok l G (setRow (sbB X w_212) 11 w_211) (0 + 1 + sb_dg m2 + 1 + sb_dg tt) ((congrFun rd_out _).trans kn_214)) (cwV 0 C.1.2.2.2.2 (gV qw_767 qw_571 qw_1956 qw_78 qw_572) rfl rfl rfl (by decide +kernel) ⟨Nat.le_of_ble_eq_true rfl, Nat.le_of_ble_eq_true rfl⟩) (g_rSB C hW_215 hS_208 []) rfl rfl hl_187.1 rfl (lv_room (Nat.le_of_ble_eq_true rfl)) dX7_renderFurnace_91 ⟨by decide, by decide⟩) hS_208 (fun r_218 Y_217 H_219 locs_220 hW_221 hS_222 h_216 => ?_)
          obtain ⟨h_216, hy_223⟩ := h_216
          replace hy_223 := hy_223.symm
          subst hy_223
          subst h_216
          refine W.widen (k := 7) (n := 42) (by decide) (by decide) ?_
          refine vx_ret ?_
          exact g_iret C hr hlk hW_221 hS_222 dX7_renderFurnace_94 (by have e9 : rfS (X.1 0) (9 + 6 * (nI f_15).toNatClampNeg) X.2.2.2.1 = (0 + 1 + sb_dg m2 + 1 + sb_dg tt, w_212) := (by subst ew_211; subst ew_212; subst ew_197; subst ew_198; subst ew_176; subst ew_177; subst ew_162; subst ew_163; subst ew_25; simp only [rfS, rfM, ltN, clf (show f_15 < 2 ^ 31 by omega), em0, em1, em2, em3, em4, clf (show m0 < 2 ^ 31 by omega), clf (show m1 < 2 ^ 31 by omega), clf (show m2 < 2 ^ 31 by omega), clf (show m3 < 2 ^ 31 by omega), clf (show tt < 2 ^ 31 by omega), b_33, b_38, b_43, b_185, if_true, if_false]); subst ew_211; subst ew_212; subst ew_197; subst ew_198; subst ew_176; subst ew_177; subst ew_162; subst ew_163; subst ew_25; exact ⟨⟨b_14, by rw [e9]⟩, X.2.1, X.2.2.1, _, by rw [hcap, e9]; exact ⟨hcp.1, hcp.2, by dsimp only; omega⟩, fun j _ => rfl, (BOk_rfS hby (by rw [clf (show f_15 < 2 ^ 31 by omega)]; exact mass_small (hmass f_15 hf_15))), by rw [e9]; simp only [slR_eq, uu10]⟩)
        · have fb_185 : ¬ m3 ≤ 0 := fun q9 => b_185 ((nI_leI (a := m3) (b := 0) (by omega) (by omega)).mpr q9)
          refine lv_aload_n hx hb dX7_renderFurnace_46 rfl (lv_at hl_184 3 rfl) ?_
          refine gF_output C hW_180 (hwc hwX7) (mc qw_294) dX7_renderFurnace_47 ?_
          refine g_ltS C hS_173 (mc qw_831) dX7_renderFurnace_50 ?_
          refine lv_iload_n hx hb dX7_renderFurnace_53 rfl (lv_at hl_184 1 rfl) ?_
          refine g_lt (v := 111) C hS_173 (vlit (by decide)) rfl dX7_renderFurnace_54 ?_
          refine g_callr (va_runV (As := [.int 111]) (rest := []) C.1 (cJ4_append_cf468_ok l G (setRow (sbB X w_177) 11 w_176) cp hcp hcap ((congrFun rd_out _).trans kn_178) (0 + 1 + sb_dg m2) ((congrFun rd_out _).trans kn_179) (by omega) 111 (by decide)) (cwV 1 C.1.2.2.2.2 (gV qw_745 qw_746 qw_747 qw_78 qw_748) rfl rfl rfl (by decide +kernel) ⟨Nat.le_of_ble_eq_true rfl, Nat.le_of_ble_eq_true rfl⟩) (g_rSB C hW_180 hS_173 [.int 111]) rfl rfl hl_184.1 rfl (lv_room (Nat.le_of_ble_eq_true rfl)) dX7_renderFurnace_55 ⟨by decide, by decide⟩) hS_173 (fun r_226 Y_225 H_227 locs_228 hW_229 hS_230 h_224 => ?_)
          obtain ⟨hr_231, hy_232⟩ := h_224
          dsimp only at hr_231 hy_232
          subst hr_231
          obtain ⟨w_234, ew_234⟩ : ∃ Z9, Z9 = upd w_177 (0 + 1 + sb_dg m2) (nI 111) := ⟨_, rfl⟩
          obtain ⟨w_233, ew_233⟩ : ∃ Z9, Z9 = upd w_176 (10) (nI (0 + 1 + sb_dg m2 + 1)) := ⟨_, rfl⟩
          have kn_235 : w_233 (8) = 0 := by rw [ew_233]; exact (pk_un (by omega)).trans kn_178
          have kn_236 : w_233 (10) = nI (0 + 1 + sb_dg m2 + 1) := by rw [ew_233]; exact pk_us
          have hW_237 : Wd G (setRow (sbB X w_234) 11 w_233) H_227 := Wd.cast (by subst ew_233 ew_234; exact hy_232.trans sb_out) hW_229
          refine lv_iload hx hb dX7_renderFurnace_58 (lv_at hl_184 0 rfl) ?_
          refine g_callr (va_runV (As := [.int (nI m3)]) (rest := []) C.1 (cJ4_append_bf812_ok l G (setRow (sbB X w_234) 11 w_233) cp hcp hcap ((congrFun rd_out _).trans kn_235) (0 + 1 + sb_dg m2 + 1) ((congrFun rd_out _).trans kn_236) m3 (show m3 < 10000 by omega) (show 0 + 1 + sb_dg m2 + 1 + sb_dg m3 ≤ cp by omega)) (cwV 1 C.1.2.2.2.2 (gV qw_1319 qw_525 qw_526 qw_78 qw_527) rfl rfl rfl (by decide +kernel) ⟨Nat.le_of_ble_eq_true rfl, Nat.le_of_ble_eq_true rfl⟩) (g_rSB C hW_237 hS_230 [.int (nI m3)]) rfl rfl hl_184.1 rfl (lv_room (Nat.le_of_ble_eq_true rfl)) dX7_renderFurnace_60 ⟨by decide, by decide⟩) hS_230 (fun r_240 Y_239 H_241 locs_242 hW_243 hS_244 h_238 => ?_)
          obtain ⟨hr_245, hy_246⟩ := h_238
          dsimp only at hr_245 hy_246
          subst hr_245
          obtain ⟨w_248, ew_248⟩ : ∃ Z9, Z9 = decR w_234 (0 + 1 + sb_dg m2 + 1) m3 := ⟨_, rfl⟩
          obtain ⟨w_247, ew_247⟩ : ∃ Z9, Z9 = upd w_233 (10) (nI (0 + 1 + sb_dg m2 + 1 + sb_dg m3)) := ⟨_, rfl⟩
          have kn_249 : w_247 (8) = 0 := by rw [ew_247]; exact (pk_un (by omega)).trans kn_235
          have kn_250 : w_247 (10) = nI (0 + 1 + sb_dg m2 + 1 + sb_dg m3) := by rw [ew_247]; exact pk_us
          have hW_251 : Wd G (setRow (sbB X w_248) 11 w_247) H_241 := Wd.cast (by subst ew_247 ew_248; exact hy_246.trans sb_out) hW_243
          refine lv_pop hx hb dX7_renderFurnace_63 rfl ?_
          refine lv_iinc (v := 4) (lv' := [(3, .int 4), (4, .int (nI m3)), (2, .ref (ad G (65 * 0 + (11 + 3 * f_15)))), (0, .ref (ad G 715)), (1, .int (nI f_15))]) hx hb dX7_renderFurnace_64 hl_184 (k := 1) rfl (by decide) (by decide) rfl (fun ls_252 hl_253 => ?_)
          refine lv_goto (tgt := 25) hx hb dX7_renderFurnace_67 (by decide) ?_
          refine lv_iload_n hx hb dX7_renderFurnace_25 rfl (lv_at hl_253 0 rfl) ?_
          refine lv_iconst (v := 4) hx hb dX7_renderFurnace_26 (by decide) ?_
          refine lv_icmp_ge (tgt := 70) hx hb dX7_renderFurnace_27 (by decide) (fun _ => ?_) (fun h9 => absurd h9 (by decide))
          refine lv_aload_n hx hb dX7_renderFurnace_70 rfl (lv_at hl_253 3 rfl) ?_
          refine gF_output C hW_251 (hwc hwX7) (mc qw_294) dX7_renderFurnace_71 ?_
          refine lv_bipush (v := 64) hx hb dX7_renderFurnace_74 (by decide) ?_
          refine g_callr (va_runV (As := [.int 64]) (rest := []) C.1 (cJ4_append_cf468_ok l G (setRow (sbB X w_248) 11 w_247) cp hcp hcap ((congrFun rd_out _).trans kn_249) (0 + 1 + sb_dg m2 + 1 + sb_dg m3) ((congrFun rd_out _).trans kn_250) (by omega) 64 (by decide)) (cwV 1 C.1.2.2.2.2 (gV qw_745 qw_746 qw_747 qw_78 qw_748) rfl rfl rfl (by decide +kernel) ⟨Nat.le_of_ble_eq_true rfl, Nat.le_of_ble_eq_true rfl⟩) (g_rSB C hW_251 hS_244 [.int 64]) rfl rfl hl_253.1 rfl (lv_room (Nat.le_of_ble_eq_true rfl)) dX7_renderFurnace_76 ⟨by decide, by decide⟩) hS_244 (fun r_256 Y_255 H_257 locs_258 hW_259 hS_260 h_254 => ?_)
          obtain ⟨hr_261, hy_262⟩ := h_254
          dsimp only at hr_261 hy_262
          subst hr_261
          obtain ⟨w_264, ew_264⟩ : ∃ Z9, Z9 = upd w_248 (0 + 1 + sb_dg m2 + 1 + sb_dg m3) (nI 64) := ⟨_, rfl⟩
          obtain ⟨w_263, ew_263⟩ : ∃ Z9, Z9 = upd w_247 (10) (nI (0 + 1 + sb_dg m2 + 1 + sb_dg m3 + 1)) := ⟨_, rfl⟩
          have kn_265 : w_263 (8) = 0 := by rw [ew_263]; exact (pk_un (by omega)).trans kn_249
          have kn_266 : w_263 (10) = nI (0 + 1 + sb_dg m2 + 1 + sb_dg m3 + 1) := by rw [ew_263]; exact pk_us
          have hW_267 : Wd G (setRow (sbB X w_264) 11 w_263) H_257 := Wd.cast (by subst ew_263 ew_264; exact hy_262.trans sb_out) hW_259
          refine lv_aload_n hx hb dX7_renderFurnace_79 rfl (lv_at hl_253 2 rfl) ?_
          refine g_tempN C hW_267 (ves_fur (G := G) h0_11 hf_15) (hwc hwX6) nw_3 dX7_renderFurnace_80 ?_
          refine g_top (y := X.1 0 (9 + 6 * f_15 + 4)) (congrFun (rd_in (by decide) rfl) _) ?_
          refine g_top (y := nI tt) em4 ?_
          refine g_callr (va_runV (As := [.int (nI tt)]) (rest := []) C.1 (cJ4_append_bf812_ok l G (setRow (sbB X w_264) 11 w_263) cp hcp hcap ((congrFun rd_out _).trans kn_265) (0 + 1 + sb_dg m2 + 1 + sb_dg m3 + 1) ((congrFun rd_out _).trans kn_266) tt (show tt < 10000 by omega) (show 0 + 1 + sb_dg m2 + 1 + sb_dg m3 + 1 + sb_dg tt ≤ cp by omega)) (cwV 1 C.1.2.2.2.2 (gV qw_1319 qw_525 qw_526 qw_78 qw_527) rfl rfl rfl (by decide +kernel) ⟨Nat.le_of_ble_eq_true rfl, Nat.le_of_ble_eq_true rfl⟩) (g_rSB C hW_267 hS_260 [.int (nI tt)]) rfl rfl hl_253.1 rfl (lv_room (Nat.le_of_ble_eq_true rfl)) dX7_renderFurnace_83 ⟨by decide, by decide⟩) hS_260 (fun r_270 Y_269 H_271 locs_272 hW_273 hS_274 h_268 => ?_)
          obtain ⟨hr_275, hy_276⟩ := h_268
          dsimp only at hr_275 hy_276
          subst hr_275
          obtain ⟨w_278, ew_278⟩ : ∃ Z9, Z9 = decR w_264 (0 + 1 + sb_dg m2 + 1 + sb_dg m3 + 1) tt := ⟨_, rfl⟩
          obtain ⟨w_277, ew_277⟩ : ∃ Z9, Z9 = upd w_263 (10) (nI (0 + 1 + sb_dg m2 + 1 + sb_dg m3 + 1 + sb_dg tt)) := ⟨_, rfl⟩
          have kn_279 : w_277 (8) = 0 := by rw [ew_277]; exact (pk_un (by omega)).trans kn_265
          have kn_280 : w_277 (10) = nI (0 + 1 + sb_dg m2 + 1 + sb_dg m3 + 1 + sb_dg tt) := by rw [ew_277]; exact pk_us
          have hW_281 : Wd G (setRow (sbB X w_278) 11 w_277) H_271 := Wd.cast (by subst ew_277 ew_278; exact hy_276.trans sb_out) hW_273
          refine lv_pop hx hb dX7_renderFurnace_86 rfl ?_
          refine lv_aload_n hx hb dX7_renderFurnace_87 rfl (lv_at hl_253 3 rfl) ?_
          refine gF_output C hW_281 (hwc hwX7) (mc qw_294) dX7_renderFurnace_88 ?_
          refine g_calli (va_runV (As := []) (rest := []) C.1 (cJ4_length_8abf5_ok l G (setRow (sbB X w_278) 11 w_277) (0 + 1 + sb_dg m2 + 1 + sb_dg m3 + 1 + sb_dg tt) ((congrFun rd_out _).trans kn_280)) (cwV 0 C.1.2.2.2.2 (gV qw_767 qw_571 qw_1956 qw_78 qw_572) rfl rfl rfl (by decide +kernel) ⟨Nat.le_of_ble_eq_true rfl, Nat.le_of_ble_eq_true rfl⟩) (g_rSB C hW_281 hS_274 []) rfl rfl hl_253.1 rfl (lv_room (Nat.le_of_ble_eq_true rfl)) dX7_renderFurnace_91 ⟨by decide, by decide⟩) hS_274 (fun r_284 Y_283 H_285 locs_286 hW_287 hS_288 h_282 => ?_)
          obtain ⟨h_282, hy_289⟩ := h_282
          replace hy_289 := hy_289.symm
          subst hy_289
          subst h_282
          refine W.widen (k := 7) (n := 42) (by decide) (by decide) ?_
          refine vx_ret ?_
          exact g_iret C hr hlk hW_287 hS_288 dX7_renderFurnace_94 (by have e9 : rfS (X.1 0) (9 + 6 * (nI f_15).toNatClampNeg) X.2.2.2.1 = (0 + 1 + sb_dg m2 + 1 + sb_dg m3 + 1 + sb_dg tt, w_278) := (by subst ew_277; subst ew_278; subst ew_263; subst ew_264; subst ew_247; subst ew_248; subst ew_233; subst ew_234; subst ew_176; subst ew_177; subst ew_162; subst ew_163; subst ew_25; simp only [rfS, rfM, ltN, clf (show f_15 < 2 ^ 31 by omega), em0, em1, em2, em3, em4, clf (show m0 < 2 ^ 31 by omega), clf (show m1 < 2 ^ 31 by omega), clf (show m2 < 2 ^ 31 by omega), clf (show m3 < 2 ^ 31 by omega), clf (show tt < 2 ^ 31 by omega), b_33, b_38, b_43, b_185, if_true, if_false]); subst ew_277; subst ew_278; subst ew_263; subst ew_264; subst ew_247; subst ew_248; subst ew_233; subst ew_234; subst ew_176; subst ew_177; subst ew_162; subst ew_163; subst ew_25; exact ⟨⟨b_14, by rw [e9]⟩, X.2.1, X.2.2.1, _, by rw [hcap, e9]; exact ⟨hcp.1, hcp.2, by dsimp only; omega⟩, fun j _ => rfl, (BOk_rfS hby (by rw [clf (show f_15 < 2 ^ 31 by omega)]; exact mass_small (hmass f_15 hf_15))), by rw [e9]; simp only [slR_eq, uu10]⟩)
    · have fb_38 : ¬ m1 ≤ 0 := fun q9 => b_38 ((nI_leI (a := m1) (b := 0) (by omega) (by omega)).mpr q9)
      refine lv_aload_n hx hb dX7_renderFurnace_46 rfl (lv_at hl_37 3 rfl) ?_
      refine gF_output C hW_28 (hwc hwX7) (mc qw_294) dX7_renderFurnace_47 ?_
      refine g_ltS C hS_24 (mc qw_831) dX7_renderFurnace_50 ?_
      refine lv_iload_n hx hb dX7_renderFurnace_53 rfl (lv_at hl_37 1 rfl) ?_
      refine g_lt (v := 116) C hS_24 (vlit (by decide)) rfl dX7_renderFurnace_54 ?_
      refine g_callr (va_runV (As := [.int 116]) (rest := []) C.1 (cJ4_append_cf468_ok l G (setRow X 11 w_25) cp hcp hcap ((congrFun rd_out _).trans kn_26) 0 ((congrFun rd_out _).trans kn_27) (by omega) 116 (by decide)) (cwV 1 C.1.2.2.2.2 (gV qw_745 qw_746 qw_747 qw_78 qw_748) rfl rfl rfl (by decide +kernel) ⟨Nat.le_of_ble_eq_true rfl, Nat.le_of_ble_eq_true rfl⟩) (g_rSB C hW_28 hS_24 [.int 116]) rfl rfl hl_37.1 rfl (lv_room (Nat.le_of_ble_eq_true rfl)) dX7_renderFurnace_55 ⟨by decide, by decide⟩) hS_24 (fun r_292 Y_291 H_293 locs_294 hW_295 hS_296 h_290 => ?_)
      obtain ⟨hr_297, hy_298⟩ := h_290
      dsimp only at hr_297 hy_298
      subst hr_297
      obtain ⟨w_300, ew_300⟩ : ∃ Z9, Z9 = upd X.2.2.2.1 0 (nI 116) := ⟨_, rfl⟩
      obtain ⟨w_299, ew_299⟩ : ∃ Z9, Z9 = upd w_25 (10) (nI (0 + 1)) := ⟨_, rfl⟩
      have kn_301 : w_299 (8) = 0 := by rw [ew_299]; exact (pk_un (by omega)).trans kn_26
      have kn_302 : w_299 (10) = nI (0 + 1) := by rw [ew_299]; exact pk_us
      have hW_303 : Wd G (setRow (sbB X w_300) 11 w_299) H_293 := Wd.cast (by subst ew_299 ew_300; exact hy_298.trans sb_out1) hW_295
      refine lv_iload hx hb dX7_renderFurnace_58 (lv_at hl_37 0 rfl) ?_
      refine g_callr (va_runV (As := [.int (nI m1)]) (rest := []) C.1 (cJ4_append_bf812_ok l G (setRow (sbB X w_300) 11 w_299) cp hcp hcap ((congrFun rd_out _).trans kn_301) (0 + 1) ((congrFun rd_out _).trans kn_302) m1 (show m1 < 10000 by omega) (show 0 + 1 + sb_dg m1 ≤ cp by omega)) (cwV 1 C.1.2.2.2.2 (gV qw_1319 qw_525 qw_526 qw_78 qw_527) rfl rfl rfl (by decide +kernel) ⟨Nat.le_of_ble_eq_true rfl, Nat.le_of_ble_eq_true rfl⟩) (g_rSB C hW_303 hS_296 [.int (nI m1)]) rfl rfl hl_37.1 rfl (lv_room (Nat.le_of_ble_eq_true rfl)) dX7_renderFurnace_60 ⟨by decide, by decide⟩) hS_296 (fun r_306 Y_305 H_307 locs_308 hW_309 hS_310 h_304 => ?_)
      obtain ⟨hr_311, hy_312⟩ := h_304
      dsimp only at hr_311 hy_312
      subst hr_311
      obtain ⟨w_314, ew_314⟩ : ∃ Z9, Z9 = decR w_300 (0 + 1) m1 := ⟨_, rfl⟩
      obtain ⟨w_313, ew_313⟩ : ∃ Z9, Z9 = upd w_299 (10) (nI (0 + 1 + sb_dg m1)) := ⟨_, rfl⟩
      have kn_315 : w_313 (8) = 0 := by rw [ew_313]; exact (pk_un (by omega)).trans kn_301
      have kn_316 : w_313 (10) = nI (0 + 1 + sb_dg m1) := by rw [ew_313]; exact pk_us
      have hW_317 : Wd G (setRow (sbB X w_314) 11 w_313) H_307 := Wd.cast (by subst ew_313 ew_314; exact hy_312.trans sb_out) hW_309
      refine lv_pop hx hb dX7_renderFurnace_63 rfl ?_
      refine lv_iinc (v := 2) (lv' := [(3, .int 2), (4, .int (nI m1)), (2, .ref (ad G (65 * 0 + (11 + 3 * f_15)))), (0, .ref (ad G 715)), (1, .int (nI f_15))]) hx hb dX7_renderFurnace_64 hl_37 (k := 1) rfl (by decide) (by decide) rfl (fun ls_318 hl_319 => ?_)
      refine lv_goto (tgt := 25) hx hb dX7_renderFurnace_67 (by decide) ?_
      refine lv_iload_n hx hb dX7_renderFurnace_25 rfl (lv_at hl_319 0 rfl) ?_
      refine lv_iconst (v := 4) hx hb dX7_renderFurnace_26 (by decide) ?_
      refine lv_icmp_ge (tgt := 70) hx hb dX7_renderFurnace_27 (by decide) (fun h9 => absurd h9 (by decide)) (fun _ => ?_)
      refine lv_aload_n hx hb dX7_renderFurnace_30 rfl (lv_at hl_319 2 rfl) ?_
      refine g_contentN C hW_317 (ves_fur (G := G) h0_11 hf_15) (hwc hwX6) nw_1 dX7_renderFurnace_31 ?_
      refine g_massesN C hW_317 (ves_fur (G := G) h0_11 hf_15).mix (hwc hwX3) nw_2 dX7_renderFurnace_34 ?_
      refine lv_iload_n hx hb dX7_renderFurnace_37 rfl (lv_at hl_319 0 rfl) ?_
      refine g_mld C hW_317 (ves_fur (G := G) h0_11 hf_15).mix 2 (by decide) (vlit (by decide)) dX7_renderFurnace_38 ?_
      refine g_top (y := X.1 0 (9 + 6 * f_15 + 2)) (congrFun (rd_in (by decide) rfl) _) ?_
      refine g_top (y := nI m2) em2 ?_
      refine lv_istore (lv' := [(4, .int (nI m2)), (3, .int 2), (2, .ref (ad G (65 * 0 + (11 + 3 * f_15)))), (0, .ref (ad G 715)), (1, .int (nI f_15))]) hx hb dX7_renderFurnace_39 hl_319 (by decide) rfl (fun ls_320 hl_321 => ?_)
      refine lv_iload hx hb dX7_renderFurnace_41 (lv_at hl_321 0 rfl) ?_
      refine lv_if_le (tgt := 64) hx hb dX7_renderFurnace_43 (by decide) (fun b_322 => ?_) (fun b_322 => ?_)
      · have fb_322 : m2 ≤ 0 := (nI_leI (a := m2) (b := 0) (by omega) (by omega)).mp b_322
        refine lv_iinc (v := 3) (lv' := [(3, .int 3), (4, .int (nI m2)), (2, .ref (ad G (65 * 0 + (11 + 3 * f_15)))), (0, .ref (ad G 715)), (1, .int (nI f_15))]) hx hb dX7_renderFurnace_64 hl_321 (k := 1) rfl (by decide) (by decide) rfl (fun ls_323 hl_324 => ?_)
        refine lv_goto (tgt := 25) hx hb dX7_renderFurnace_67 (by decide) ?_
        refine lv_iload_n hx hb dX7_renderFurnace_25 rfl (lv_at hl_324 0 rfl) ?_
        refine lv_iconst (v := 4) hx hb dX7_renderFurnace_26 (by decide) ?_
        refine lv_icmp_ge (tgt := 70) hx hb dX7_renderFurnace_27 (by decide) (fun h9 => absurd h9 (by decide)) (fun _ => ?_)
        refine lv_aload_n hx hb dX7_renderFurnace_30 rfl (lv_at hl_324 2 rfl) ?_
        refine g_contentN C hW_317 (ves_fur (G := G) h0_11 hf_15) (hwc hwX6) nw_1 dX7_renderFurnace_31 ?_
        refine g_massesN C hW_317 (ves_fur (G := G) h0_11 hf_15).mix (hwc hwX3) nw_2 dX7_renderFurnace_34 ?_
        refine lv_iload_n hx hb dX7_renderFurnace_37 rfl (lv_at hl_324 0 rfl) ?_
        refine g_mld C hW_317 (ves_fur (G := G) h0_11 hf_15).mix 3 (by decide) (vlit (by decide)) dX7_renderFurnace_38 ?_
        refine g_top (y := X.1 0 (9 + 6 * f_15 + 3)) (congrFun (rd_in (by decide) rfl) _) ?_
        refine g_top (y := nI m3) em3 ?_
        refine lv_istore (lv' := [(4, .int (nI m3)), (3, .int 3), (2, .ref (ad G (65 * 0 + (11 + 3 * f_15)))), (0, .ref (ad G 715)), (1, .int (nI f_15))]) hx hb dX7_renderFurnace_39 hl_324 (by decide) rfl (fun ls_325 hl_326 => ?_)
        refine lv_iload hx hb dX7_renderFurnace_41 (lv_at hl_326 0 rfl) ?_
        refine lv_if_le (tgt := 64) hx hb dX7_renderFurnace_43 (by decide) (fun b_327 => ?_) (fun b_327 => ?_)
        · have fb_327 : m3 ≤ 0 := (nI_leI (a := m3) (b := 0) (by omega) (by omega)).mp b_327
          refine lv_iinc (v := 4) (lv' := [(3, .int 4), (4, .int (nI m3)), (2, .ref (ad G (65 * 0 + (11 + 3 * f_15)))), (0, .ref (ad G 715)), (1, .int (nI f_15))]) hx hb dX7_renderFurnace_64 hl_326 (k := 1) rfl (by decide) (by decide) rfl (fun ls_328 hl_329 => ?_)
          refine lv_goto (tgt := 25) hx hb dX7_renderFurnace_67 (by decide) ?_
          refine lv_iload_n hx hb dX7_renderFurnace_25 rfl (lv_at hl_329 0 rfl) ?_
          refine lv_iconst (v := 4) hx hb dX7_renderFurnace_26 (by decide) ?_
          refine lv_icmp_ge (tgt := 70) hx hb dX7_renderFurnace_27 (by decide) (fun _ => ?_) (fun h9 => absurd h9 (by decide))
          refine lv_aload_n hx hb dX7_renderFurnace_70 rfl (lv_at hl_329 3 rfl) ?_
          refine gF_output C hW_317 (hwc hwX7) (mc qw_294) dX7_renderFurnace_71 ?_
          refine lv_bipush (v := 64) hx hb dX7_renderFurnace_74 (by decide) ?_
          refine g_callr (va_runV (As := [.int 64]) (rest := []) C.1 (cJ4_append_cf468_ok l G (setRow (sbB X w_314) 11 w_313) cp hcp hcap ((congrFun rd_out _).trans kn_315) (0 + 1 + sb_dg m1) ((congrFun rd_out _).trans kn_316) (by omega) 64 (by decide)) (cwV 1 C.1.2.2.2.2 (gV qw_745 qw_746 qw_747 qw_78 qw_748) rfl rfl rfl (by decide +kernel) ⟨Nat.le_of_ble_eq_true rfl, Nat.le_of_ble_eq_true rfl⟩) (g_rSB C hW_317 hS_310 [.int 64]) rfl rfl hl_329.1 rfl (lv_room (Nat.le_of_ble_eq_true rfl)) dX7_renderFurnace_76 ⟨by decide, by decide⟩) hS_310 (fun r_332 Y_331 H_333 locs_334 hW_335 hS_336 h_330 => ?_)
          obtain ⟨hr_337, hy_338⟩ := h_330
          dsimp only at hr_337 hy_338
          subst hr_337
          obtain ⟨w_340, ew_340⟩ : ∃ Z9, Z9 = upd w_314 (0 + 1 + sb_dg m1) (nI 64) := ⟨_, rfl⟩
          obtain ⟨w_339, ew_339⟩ : ∃ Z9, Z9 = upd w_313 (10) (nI (0 + 1 + sb_dg m1 + 1)) := ⟨_, rfl⟩
          have kn_341 : w_339 (8) = 0 := by rw [ew_339]; exact (pk_un (by omega)).trans kn_315
          have kn_342 : w_339 (10) = nI (0 + 1 + sb_dg m1 + 1) := by rw [ew_339]; exact pk_us
          have hW_343 : Wd G (setRow (sbB X w_340) 11 w_339) H_333 := Wd.cast (by subst ew_339 ew_340; exact hy_338.trans sb_out) hW_335
          refine lv_aload_n hx hb dX7_renderFurnace_79 rfl (lv_at hl_329 2 rfl) ?_
          refine g_tempN C hW_343 (ves_fur (G := G) h0_11 hf_15) (hwc hwX6) nw_3 dX7_renderFurnace_80 ?_
          refine g_top (y := X.1 0 (9 + 6 * f_15 + 4)) (congrFun (rd_in (by decide) rfl) _) ?_
          refine g_top (y := nI tt) em4 ?_
          refine g_callr (va_runV (As := [.int (nI tt)]) (rest := []) C.1 (cJ4_append_bf812_ok l G (setRow (sbB X w_340) 11 w_339) cp hcp hcap ((congrFun rd_out _).trans kn_341) (0 + 1 + sb_dg m1 + 1) ((congrFun rd_out _).trans kn_342) tt (show tt < 10000 by omega) (show 0 + 1 + sb_dg m1 + 1 + sb_dg tt ≤ cp by omega)) (cwV 1 C.1.2.2.2.2 (gV qw_1319 qw_525 qw_526 qw_78 qw_527) rfl rfl rfl (by decide +kernel) ⟨Nat.le_of_ble_eq_true rfl, Nat.le_of_ble_eq_true rfl⟩) (g_rSB C hW_343 hS_336 [.int (nI tt)]) rfl rfl hl_329.1 rfl (lv_room (Nat.le_of_ble_eq_true rfl)) dX7_renderFurnace_83 ⟨by decide, by decide⟩) hS_336 (fun r_346 Y_345 H_347 locs_348 hW_349 hS_350 h_344 => ?_)
          obtain ⟨hr_351, hy_352⟩ := h_344
          dsimp only at hr_351 hy_352
          subst hr_351
          obtain ⟨w_354, ew_354⟩ : ∃ Z9, Z9 = decR w_340 (0 + 1 + sb_dg m1 + 1) tt := ⟨_, rfl⟩
          obtain ⟨w_353, ew_353⟩ : ∃ Z9, Z9 = upd w_339 (10) (nI (0 + 1 + sb_dg m1 + 1 + sb_dg tt)) := ⟨_, rfl⟩
          have kn_355 : w_353 (8) = 0 := by rw [ew_353]; exact (pk_un (by omega)).trans kn_341
          have kn_356 : w_353 (10) = nI (0 + 1 + sb_dg m1 + 1 + sb_dg tt) := by rw [ew_353]; exact pk_us
          have hW_357 : Wd G (setRow (sbB X w_354) 11 w_353) H_347 := Wd.cast (by subst ew_353 ew_354; exact hy_352.trans sb_out) hW_349
          refine lv_pop hx hb dX7_renderFurnace_86 rfl ?_
          refine lv_aload_n hx hb dX7_renderFurnace_87 rfl (lv_at hl_329 3 rfl) ?_
          refine gF_output C hW_357 (hwc hwX7) (mc qw_294) dX7_renderFurnace_88 ?_
          refine g_calli (va_runV (As := []) (rest := []) C.1 (cJ4_length_8abf5_ok l G (setRow (sbB X w_354) 11 w_353) (0 + 1 + sb_dg m1 + 1 + sb_dg tt) ((congrFun rd_out _).trans kn_356)) (cwV 0 C.1.2.2.2.2 (gV qw_767 qw_571 qw_1956 qw_78 qw_572) rfl rfl rfl (by decide +kernel) ⟨Nat.le_of_ble_eq_true rfl, Nat.le_of_ble_eq_true rfl⟩) (g_rSB C hW_357 hS_350 []) rfl rfl hl_329.1 rfl (lv_room (Nat.le_of_ble_eq_true rfl)) dX7_renderFurnace_91 ⟨by decide, by decide⟩) hS_350 (fun r_360 Y_359 H_361 locs_362 hW_363 hS_364 h_358 => ?_)
          obtain ⟨h_358, hy_365⟩ := h_358
          replace hy_365 := hy_365.symm
          subst hy_365
          subst h_358
          refine W.widen (k := 7) (n := 42) (by decide) (by decide) ?_
          refine vx_ret ?_
          exact g_iret C hr hlk hW_363 hS_364 dX7_renderFurnace_94 (by have e9 : rfS (X.1 0) (9 + 6 * (nI f_15).toNatClampNeg) X.2.2.2.1 = (0 + 1 + sb_dg m1 + 1 + sb_dg tt, w_354) := (by subst ew_353; subst ew_354; subst ew_339; subst ew_340; subst ew_313; subst ew_314; subst ew_299; subst ew_300; subst ew_25; simp only [rfS, rfM, ltN, clf (show f_15 < 2 ^ 31 by omega), em0, em1, em2, em3, em4, clf (show m0 < 2 ^ 31 by omega), clf (show m1 < 2 ^ 31 by omega), clf (show m2 < 2 ^ 31 by omega), clf (show m3 < 2 ^ 31 by omega), clf (show tt < 2 ^ 31 by omega), b_33, b_38, b_322, b_327, if_true, if_false]); subst ew_353; subst ew_354; subst ew_339; subst ew_340; subst ew_313; subst ew_314; subst ew_299; subst ew_300; subst ew_25; exact ⟨⟨b_14, by rw [e9]⟩, X.2.1, X.2.2.1, _, by rw [hcap, e9]; exact ⟨hcp.1, hcp.2, by dsimp only; omega⟩, fun j _ => rfl, (BOk_rfS hby (by rw [clf (show f_15 < 2 ^ 31 by omega)]; exact mass_small (hmass f_15 hf_15))), by rw [e9]; simp only [slR_eq, uu10]⟩)
        · have fb_327 : ¬ m3 ≤ 0 := fun q9 => b_327 ((nI_leI (a := m3) (b := 0) (by omega) (by omega)).mpr q9)
          refine lv_aload_n hx hb dX7_renderFurnace_46 rfl (lv_at hl_326 3 rfl) ?_
          refine gF_output C hW_317 (hwc hwX7) (mc qw_294) dX7_renderFurnace_47 ?_
          refine g_ltS C hS_310 (mc qw_831) dX7_renderFurnace_50 ?_
          refine lv_iload_n hx hb dX7_renderFurnace_53 rfl (lv_at hl_326 1 rfl) ?_
          refine g_lt (v := 111) C hS_310 (vlit (by decide)) rfl dX7_renderFurnace_54 ?_
          refine g_callr (va_runV (As := [.int 111]) (rest := []) C.1 (cJ4_append_cf468_ok l G (setRow (sbB X w_314) 11 w_313) cp hcp hcap ((congrFun rd_out _).trans kn_315) (0 + 1 + sb_dg m1) ((congrFun rd_out _).trans kn_316) (by omega) 111 (by decide)) (cwV 1 C.1.2.2.2.2 (gV qw_745 qw_746 qw_747 qw_78 qw_748) rfl rfl rfl (by decide +kernel) ⟨Nat.le_of_ble_eq_true rfl, Nat.le_of_ble_eq_true rfl⟩) (g_rSB C hW_317 hS_310 [.int 111]) rfl rfl hl_326.1 rfl (lv_room (Nat.le_of_ble_eq_true rfl)) dX7_renderFurnace_55 ⟨by decide, by decide⟩) hS_310 (fun r_368 Y_367 H_369 locs_370 hW_371 hS_372 h_366 => ?_)
          obtain ⟨hr_373, hy_374⟩ := h_366
          dsimp only at hr_373 hy_374
          subst hr_373
          obtain ⟨w_376, ew_376⟩ : ∃ Z9, Z9 = upd w_314 (0 + 1 + sb_dg m1) (nI 111) := ⟨_, rfl⟩
          obtain ⟨w_375, ew_375⟩ : ∃ Z9, Z9 = upd w_313 (10) (nI (0 + 1 + sb_dg m1 + 1)) := ⟨_, rfl⟩
          have kn_377 : w_375 (8) = 0 := by rw [ew_375]; exact (pk_un (by omega)).trans kn_315
          have kn_378 : w_375 (10) = nI (0 + 1 + sb_dg m1 + 1) := by rw [ew_375]; exact pk_us
          have hW_379 : Wd G (setRow (sbB X w_376) 11 w_375) H_369 := Wd.cast (by subst ew_375 ew_376; exact hy_374.trans sb_out) hW_371
          refine lv_iload hx hb dX7_renderFurnace_58 (lv_at hl_326 0 rfl) ?_
          refine g_callr (va_runV (As := [.int (nI m3)]) (rest := []) C.1 (cJ4_append_bf812_ok l G (setRow (sbB X w_376) 11 w_375) cp hcp hcap ((congrFun rd_out _).trans kn_377) (0 + 1 + sb_dg m1 + 1) ((congrFun rd_out _).trans kn_378) m3 (show m3 < 10000 by omega) (show 0 + 1 + sb_dg m1 + 1 + sb_dg m3 ≤ cp by omega)) (cwV 1 C.1.2.2.2.2 (gV qw_1319 qw_525 qw_526 qw_78 qw_527) rfl rfl rfl (by decide +kernel) ⟨Nat.le_of_ble_eq_true rfl, Nat.le_of_ble_eq_true rfl⟩) (g_rSB C hW_379 hS_372 [.int (nI m3)]) rfl rfl hl_326.1 rfl (lv_room (Nat.le_of_ble_eq_true rfl)) dX7_renderFurnace_60 ⟨by decide, by decide⟩) hS_372 (fun r_382 Y_381 H_383 locs_384 hW_385 hS_386 h_380 => ?_)
          obtain ⟨hr_387, hy_388⟩ := h_380
          dsimp only at hr_387 hy_388
          subst hr_387
          obtain ⟨w_390, ew_390⟩ : ∃ Z9, Z9 = decR w_376 (0 + 1 + sb_dg m1 + 1) m3 := ⟨_, rfl⟩
          obtain ⟨w_389, ew_389⟩ : ∃ Z9, Z9 = upd w_375 (10) (nI (0 + 1 + sb_dg m1 + 1 + sb_dg m3)) := ⟨_, rfl⟩
          have kn_391 : w_389 (8) = 0 := by rw [ew_389]; exact (pk_un (by omega)).trans kn_377
          have kn_392 : w_389 (10) = nI (0 + 1 + sb_dg m1 + 1 + sb_dg m3) := by rw [ew_389]; exact pk_us
          have hW_393 : Wd G (setRow (sbB X w_390) 11 w_389) H_383 := Wd.cast (by subst ew_389 ew_390; exact hy_388.trans sb_out) hW_385
          refine lv_pop hx hb dX7_renderFurnace_63 rfl ?_
          refine lv_iinc (v := 4) (lv' := [(3, .int 4), (4, .int (nI m3)), (2, .ref (ad G (65 * 0 + (11 + 3 * f_15)))), (0, .ref (ad G 715)), (1, .int (nI f_15))]) hx hb dX7_renderFurnace_64 hl_326 (k := 1) rfl (by decide) (by decide) rfl (fun ls_394 hl_395 => ?_)
          refine lv_goto (tgt := 25) hx hb dX7_renderFurnace_67 (by decide) ?_
          refine lv_iload_n hx hb dX7_renderFurnace_25 rfl (lv_at hl_395 0 rfl) ?_
          refine lv_iconst (v := 4) hx hb dX7_renderFurnace_26 (by decide) ?_
          refine lv_icmp_ge (tgt := 70) hx hb dX7_renderFurnace_27 (by decide) (fun _ => ?_) (fun h9 => absurd h9 (by decide))
          refine lv_aload_n hx hb dX7_renderFurnace_70 rfl (lv_at hl_395 3 rfl) ?_
          refine gF_output C hW_393 (hwc hwX7) (mc qw_294) dX7_renderFurnace_71 ?_
          refine lv_bipush (v := 64) hx hb dX7_renderFurnace_74 (by decide) ?_
          refine g_callr (va_runV (As := [.int 64]) (rest := []) C.1 (cJ4_append_cf468_ok l G (setRow (sbB X w_390) 11 w_389) cp hcp hcap ((congrFun rd_out _).trans kn_391) (0 + 1 + sb_dg m1 + 1 + sb_dg m3) ((congrFun rd_out _).trans kn_392) (by omega) 64 (by decide)) (cwV 1 C.1.2.2.2.2 (gV qw_745 qw_746 qw_747 qw_78 qw_748) rfl rfl rfl (by decide +kernel) ⟨Nat.le_of_ble_eq_true rfl, Nat.le_of_ble_eq_true rfl⟩) (g_rSB C hW_393 hS_386 [.int 64]) rfl rfl hl_395.1 rfl (lv_room (Nat.le_of_ble_eq_true rfl)) dX7_renderFurnace_76 ⟨by decide, by decide⟩) hS_386 (fun r_398 Y_397 H_399 locs_400 hW_401 hS_402 h_396 => ?_)
          obtain ⟨hr_403, hy_404⟩ := h_396
          dsimp only at hr_403 hy_404
          subst hr_403
          obtain ⟨w_406, ew_406⟩ : ∃ Z9, Z9 = upd w_390 (0 + 1 + sb_dg m1 + 1 + sb_dg m3) (nI 64) := ⟨_, rfl⟩
          obtain ⟨w_405, ew_405⟩ : ∃ Z9, Z9 = upd w_389 (10) (nI (0 + 1 + sb_dg m1 + 1 + sb_dg m3 + 1)) := ⟨_, rfl⟩
          have kn_407 : w_405 (8) = 0 := by rw [ew_405]; exact (pk_un (by omega)).trans kn_391
          have kn_408 : w_405 (10) = nI (0 + 1 + sb_dg m1 + 1 + sb_dg m3 + 1) := by rw [ew_405]; exact pk_us
          have hW_409 : Wd G (setRow (sbB X w_406) 11 w_405) H_399 := Wd.cast (by subst ew_405 ew_406; exact hy_404.trans sb_out) hW_401
          refine lv_aload_n hx hb dX7_renderFurnace_79 rfl (lv_at hl_395 2 rfl) ?_
          refine g_tempN C hW_409 (ves_fur (G := G) h0_11 hf_15) (hwc hwX6) nw_3 dX7_renderFurnace_80 ?_
          refine g_top (y := X.1 0 (9 + 6 * f_15 + 4)) (congrFun (rd_in (by decide) rfl) _) ?_
          refine g_top (y := nI tt) em4 ?_
          refine g_callr (va_runV (As := [.int (nI tt)]) (rest := []) C.1 (cJ4_append_bf812_ok l G (setRow (sbB X w_406) 11 w_405) cp hcp hcap ((congrFun rd_out _).trans kn_407) (0 + 1 + sb_dg m1 + 1 + sb_dg m3 + 1) ((congrFun rd_out _).trans kn_408) tt (show tt < 10000 by omega) (show 0 + 1 + sb_dg m1 + 1 + sb_dg m3 + 1 + sb_dg tt ≤ cp by omega)) (cwV 1 C.1.2.2.2.2 (gV qw_1319 qw_525 qw_526 qw_78 qw_527) rfl rfl rfl (by decide +kernel) ⟨Nat.le_of_ble_eq_true rfl, Nat.le_of_ble_eq_true rfl⟩) (g_rSB C hW_409 hS_402 [.int (nI tt)]) rfl rfl hl_395.1 rfl (lv_room (Nat.le_of_ble_eq_true rfl)) dX7_renderFurnace_83 ⟨by decide, by decide⟩) hS_402 (fun r_412 Y_411 H_413 locs_414 hW_415 hS_416 h_410 => ?_)
          obtain ⟨hr_417, hy_418⟩ := h_410
          dsimp only at hr_417 hy_418
          subst hr_417
          obtain ⟨w_420, ew_420⟩ : ∃ Z9, Z9 = decR w_406 (0 + 1 + sb_dg m1 + 1 + sb_dg m3 + 1) tt := ⟨_, rfl⟩
          obtain ⟨w_419, ew_419⟩ : ∃ Z9, Z9 = upd w_405 (10) (nI (0 + 1 + sb_dg m1 + 1 + sb_dg m3 + 1 + sb_dg tt)) := ⟨_, rfl⟩
          have kn_421 : w_419 (8) = 0 := by rw [ew_419]; exact (pk_un (by omega)).trans kn_407
          have kn_422 : w_419 (10) = nI (0 + 1 + sb_dg m1 + 1 + sb_dg m3 + 1 + sb_dg tt) := by rw [ew_419]; exact pk_us
          have hW_423 : Wd G (setRow (sbB X w_420) 11 w_419) H_413 := Wd.cast (by subst ew_419 ew_420; exact hy_418.trans sb_out) hW_415
          refine lv_pop hx hb dX7_renderFurnace_86 rfl ?_
          refine lv_aload_n hx hb dX7_renderFurnace_87 rfl (lv_at hl_395 3 rfl) ?_
          refine gF_output C hW_423 (hwc hwX7) (mc qw_294) dX7_renderFurnace_88 ?_
          refine g_calli (va_runV (As := []) (rest := []) C.1 (cJ4_length_8abf5_ok l G (setRow (sbB X w_420) 11 w_419) (0 + 1 + sb_dg m1 + 1 + sb_dg m3 + 1 + sb_dg tt) ((congrFun rd_out _).trans kn_422)) (cwV 0 C.1.2.2.2.2 (gV qw_767 qw_571 qw_1956 qw_78 qw_572) rfl rfl rfl (by decide +kernel) ⟨Nat.le_of_ble_eq_true rfl, Nat.le_of_ble_eq_true rfl⟩) (g_rSB C hW_423 hS_416 []) rfl rfl hl_395.1 rfl (lv_room (Nat.le_of_ble_eq_true rfl)) dX7_renderFurnace_91 ⟨by decide, by decide⟩) hS_416 (fun r_426 Y_425 H_427 locs_428 hW_429 hS_430 h_424 => ?_)
          obtain ⟨h_424, hy_431⟩ := h_424
          replace hy_431 := hy_431.symm
          subst hy_431
          subst h_424
          refine W.widen (k := 7) (n := 42) (by decide) (by decide) ?_
          refine vx_ret ?_
          exact g_iret C hr hlk hW_429 hS_430 dX7_renderFurnace_94 (by have e9 : rfS (X.1 0) (9 + 6 * (nI f_15).toNatClampNeg) X.2.2.2.1 = (0 + 1 + sb_dg m1 + 1 + sb_dg m3 + 1 + sb_dg tt, w_420) := (by subst ew_419; subst ew_420; subst ew_405; subst ew_406; subst ew_389; subst ew_390; subst ew_375; subst ew_376; subst ew_313; subst ew_314; subst ew_299; subst ew_300; subst ew_25; simp only [rfS, rfM, ltN, clf (show f_15 < 2 ^ 31 by omega), em0, em1, em2, em3, em4, clf (show m0 < 2 ^ 31 by omega), clf (show m1 < 2 ^ 31 by omega), clf (show m2 < 2 ^ 31 by omega), clf (show m3 < 2 ^ 31 by omega), clf (show tt < 2 ^ 31 by omega), b_33, b_38, b_322, b_327, if_true, if_false]); subst ew_419; subst ew_420; subst ew_405; subst ew_406; subst ew_389; subst ew_390; subst ew_375; subst ew_376; subst ew_313; subst ew_314; subst ew_299; subst ew_300; subst ew_25; exact ⟨⟨b_14, by rw [e9]⟩, X.2.1, X.2.2.1, _, by rw [hcap, e9]; exact ⟨hcp.1, hcp.2, by dsimp only; omega⟩, fun j _ => rfl, (BOk_rfS hby (by rw [clf (show f_15 < 2 ^ 31 by omega)]; exact mass_small (hmass f_15 hf_15))), by rw [e9]; simp only [slR_eq, uu10]⟩)
      · have fb_322 : ¬ m2 ≤ 0 := fun q9 => b_322 ((nI_leI (a := m2) (b := 0) (by omega) (by omega)).mpr q9)
        refine lv_aload_n hx hb dX7_renderFurnace_46 rfl (lv_at hl_321 3 rfl) ?_
        refine gF_output C hW_317 (hwc hwX7) (mc qw_294) dX7_renderFurnace_47 ?_
        refine g_ltS C hS_310 (mc qw_831) dX7_renderFurnace_50 ?_
        refine lv_iload_n hx hb dX7_renderFurnace_53 rfl (lv_at hl_321 1 rfl) ?_
        refine g_lt (v := 108) C hS_310 (vlit (by decide)) rfl dX7_renderFurnace_54 ?_
        refine g_callr (va_runV (As := [.int 108]) (rest := []) C.1 (cJ4_append_cf468_ok l G (setRow (sbB X w_314) 11 w_313) cp hcp hcap ((congrFun rd_out _).trans kn_315) (0 + 1 + sb_dg m1) ((congrFun rd_out _).trans kn_316) (by omega) 108 (by decide)) (cwV 1 C.1.2.2.2.2 (gV qw_745 qw_746 qw_747 qw_78 qw_748) rfl rfl rfl (by decide +kernel) ⟨Nat.le_of_ble_eq_true rfl, Nat.le_of_ble_eq_true rfl⟩) (g_rSB C hW_317 hS_310 [.int 108]) rfl rfl hl_321.1 rfl (lv_room (Nat.le_of_ble_eq_true rfl)) dX7_renderFurnace_55 ⟨by decide, by decide⟩) hS_310 (fun r_434 Y_433 H_435 locs_436 hW_437 hS_438 h_432 => ?_)
        obtain ⟨hr_439, hy_440⟩ := h_432
        dsimp only at hr_439 hy_440
        subst hr_439
        obtain ⟨w_442, ew_442⟩ : ∃ Z9, Z9 = upd w_314 (0 + 1 + sb_dg m1) (nI 108) := ⟨_, rfl⟩
        obtain ⟨w_441, ew_441⟩ : ∃ Z9, Z9 = upd w_313 (10) (nI (0 + 1 + sb_dg m1 + 1)) := ⟨_, rfl⟩
        have kn_443 : w_441 (8) = 0 := by rw [ew_441]; exact (pk_un (by omega)).trans kn_315
        have kn_444 : w_441 (10) = nI (0 + 1 + sb_dg m1 + 1) := by rw [ew_441]; exact pk_us
        have hW_445 : Wd G (setRow (sbB X w_442) 11 w_441) H_435 := Wd.cast (by subst ew_441 ew_442; exact hy_440.trans sb_out) hW_437
        refine lv_iload hx hb dX7_renderFurnace_58 (lv_at hl_321 0 rfl) ?_
        refine g_callr (va_runV (As := [.int (nI m2)]) (rest := []) C.1 (cJ4_append_bf812_ok l G (setRow (sbB X w_442) 11 w_441) cp hcp hcap ((congrFun rd_out _).trans kn_443) (0 + 1 + sb_dg m1 + 1) ((congrFun rd_out _).trans kn_444) m2 (show m2 < 10000 by omega) (show 0 + 1 + sb_dg m1 + 1 + sb_dg m2 ≤ cp by omega)) (cwV 1 C.1.2.2.2.2 (gV qw_1319 qw_525 qw_526 qw_78 qw_527) rfl rfl rfl (by decide +kernel) ⟨Nat.le_of_ble_eq_true rfl, Nat.le_of_ble_eq_true rfl⟩) (g_rSB C hW_445 hS_438 [.int (nI m2)]) rfl rfl hl_321.1 rfl (lv_room (Nat.le_of_ble_eq_true rfl)) dX7_renderFurnace_60 ⟨by decide, by decide⟩) hS_438 (fun r_448 Y_447 H_449 locs_450 hW_451 hS_452 h_446 => ?_)
        obtain ⟨hr_453, hy_454⟩ := h_446
        dsimp only at hr_453 hy_454
        subst hr_453
        obtain ⟨w_456, ew_456⟩ : ∃ Z9, Z9 = decR w_442 (0 + 1 + sb_dg m1 + 1) m2 := ⟨_, rfl⟩
        obtain ⟨w_455, ew_455⟩ : ∃ Z9, Z9 = upd w_441 (10) (nI (0 + 1 + sb_dg m1 + 1 + sb_dg m2)) := ⟨_, rfl⟩
        have kn_457 : w_455 (8) = 0 := by rw [ew_455]; exact (pk_un (by omega)).trans kn_443
        have kn_458 : w_455 (10) = nI (0 + 1 + sb_dg m1 + 1 + sb_dg m2) := by rw [ew_455]; exact pk_us
        have hW_459 : Wd G (setRow (sbB X w_456) 11 w_455) H_449 := Wd.cast (by subst ew_455 ew_456; exact hy_454.trans sb_out) hW_451
        refine lv_pop hx hb dX7_renderFurnace_63 rfl ?_
        refine lv_iinc (v := 3) (lv' := [(3, .int 3), (4, .int (nI m2)), (2, .ref (ad G (65 * 0 + (11 + 3 * f_15)))), (0, .ref (ad G 715)), (1, .int (nI f_15))]) hx hb dX7_renderFurnace_64 hl_321 (k := 1) rfl (by decide) (by decide) rfl (fun ls_460 hl_461 => ?_)
        refine lv_goto (tgt := 25) hx hb dX7_renderFurnace_67 (by decide) ?_
        refine lv_iload_n hx hb dX7_renderFurnace_25 rfl (lv_at hl_461 0 rfl) ?_
        refine lv_iconst (v := 4) hx hb dX7_renderFurnace_26 (by decide) ?_
        refine lv_icmp_ge (tgt := 70) hx hb dX7_renderFurnace_27 (by decide) (fun h9 => absurd h9 (by decide)) (fun _ => ?_)
        refine lv_aload_n hx hb dX7_renderFurnace_30 rfl (lv_at hl_461 2 rfl) ?_
        refine g_contentN C hW_459 (ves_fur (G := G) h0_11 hf_15) (hwc hwX6) nw_1 dX7_renderFurnace_31 ?_
        refine g_massesN C hW_459 (ves_fur (G := G) h0_11 hf_15).mix (hwc hwX3) nw_2 dX7_renderFurnace_34 ?_
        refine lv_iload_n hx hb dX7_renderFurnace_37 rfl (lv_at hl_461 0 rfl) ?_
        refine g_mld C hW_459 (ves_fur (G := G) h0_11 hf_15).mix 3 (by decide) (vlit (by decide)) dX7_renderFurnace_38 ?_
        refine g_top (y := X.1 0 (9 + 6 * f_15 + 3)) (congrFun (rd_in (by decide) rfl) _) ?_
        refine g_top (y := nI m3) em3 ?_
        refine lv_istore (lv' := [(4, .int (nI m3)), (3, .int 3), (2, .ref (ad G (65 * 0 + (11 + 3 * f_15)))), (0, .ref (ad G 715)), (1, .int (nI f_15))]) hx hb dX7_renderFurnace_39 hl_461 (by decide) rfl (fun ls_462 hl_463 => ?_)
        refine lv_iload hx hb dX7_renderFurnace_41 (lv_at hl_463 0 rfl) ?_
        refine lv_if_le (tgt := 64) hx hb dX7_renderFurnace_43 (by decide) (fun b_464 => ?_) (fun b_464 => ?_)
        · have fb_464 : m3 ≤ 0 := (nI_leI (a := m3) (b := 0) (by omega) (by omega)).mp b_464
          refine lv_iinc (v := 4) (lv' := [(3, .int 4), (4, .int (nI m3)), (2, .ref (ad G (65 * 0 + (11 + 3 * f_15)))), (0, .ref (ad G 715)), (1, .int (nI f_15))]) hx hb dX7_renderFurnace_64 hl_463 (k := 1) rfl (by decide) (by decide) rfl (fun ls_465 hl_466 => ?_)
          refine lv_goto (tgt := 25) hx hb dX7_renderFurnace_67 (by decide) ?_
          refine lv_iload_n hx hb dX7_renderFurnace_25 rfl (lv_at hl_466 0 rfl) ?_
          refine lv_iconst (v := 4) hx hb dX7_renderFurnace_26 (by decide) ?_
          refine lv_icmp_ge (tgt := 70) hx hb dX7_renderFurnace_27 (by decide) (fun _ => ?_) (fun h9 => absurd h9 (by decide))
          refine lv_aload_n hx hb dX7_renderFurnace_70 rfl (lv_at hl_466 3 rfl) ?_
          refine gF_output C hW_459 (hwc hwX7) (mc qw_294) dX7_renderFurnace_71 ?_
          refine lv_bipush (v := 64) hx hb dX7_renderFurnace_74 (by decide) ?_
          refine g_callr (va_runV (As := [.int 64]) (rest := []) C.1 (cJ4_append_cf468_ok l G (setRow (sbB X w_456) 11 w_455) cp hcp hcap ((congrFun rd_out _).trans kn_457) (0 + 1 + sb_dg m1 + 1 + sb_dg m2) ((congrFun rd_out _).trans kn_458) (by omega) 64 (by decide)) (cwV 1 C.1.2.2.2.2 (gV qw_745 qw_746 qw_747 qw_78 qw_748) rfl rfl rfl (by decide +kernel) ⟨Nat.le_of_ble_eq_true rfl, Nat.le_of_ble_eq_true rfl⟩) (g_rSB C hW_459 hS_452 [.int 64]) rfl rfl hl_466.1 rfl (lv_room (Nat.le_of_ble_eq_true rfl)) dX7_renderFurnace_76 ⟨by decide, by decide⟩) hS_452 (fun r_469 Y_468 H_470 locs_471 hW_472 hS_473 h_467 => ?_)
          obtain ⟨hr_474, hy_475⟩ := h_467
          dsimp only at hr_474 hy_475
          subst hr_474
          obtain ⟨w_477, ew_477⟩ : ∃ Z9, Z9 = upd w_456 (0 + 1 + sb_dg m1 + 1 + sb_dg m2) (nI 64) := ⟨_, rfl⟩
          obtain ⟨w_476, ew_476⟩ : ∃ Z9, Z9 = upd w_455 (10) (nI (0 + 1 + sb_dg m1 + 1 + sb_dg m2 + 1)) := ⟨_, rfl⟩
          have kn_478 : w_476 (8) = 0 := by rw [ew_476]; exact (pk_un (by omega)).trans kn_457
          have kn_479 : w_476 (10) = nI (0 + 1 + sb_dg m1 + 1 + sb_dg m2 + 1) := by rw [ew_476]; exact pk_us
          have hW_480 : Wd G (setRow (sbB X w_477) 11 w_476) H_470 := Wd.cast (by subst ew_476 ew_477; exact hy_475.trans sb_out) hW_472
          refine lv_aload_n hx hb dX7_renderFurnace_79 rfl (lv_at hl_466 2 rfl) ?_
          refine g_tempN C hW_480 (ves_fur (G := G) h0_11 hf_15) (hwc hwX6) nw_3 dX7_renderFurnace_80 ?_
          refine g_top (y := X.1 0 (9 + 6 * f_15 + 4)) (congrFun (rd_in (by decide) rfl) _) ?_
          refine g_top (y := nI tt) em4 ?_
          refine g_callr (va_runV (As := [.int (nI tt)]) (rest := []) C.1 (cJ4_append_bf812_ok l G (setRow (sbB X w_477) 11 w_476) cp hcp hcap ((congrFun rd_out _).trans kn_478) (0 + 1 + sb_dg m1 + 1 + sb_dg m2 + 1) ((congrFun rd_out _).trans kn_479) tt (show tt < 10000 by omega) (show 0 + 1 + sb_dg m1 + 1 + sb_dg m2 + 1 + sb_dg tt ≤ cp by omega)) (cwV 1 C.1.2.2.2.2 (gV qw_1319 qw_525 qw_526 qw_78 qw_527) rfl rfl rfl (by decide +kernel) ⟨Nat.le_of_ble_eq_true rfl, Nat.le_of_ble_eq_true rfl⟩) (g_rSB C hW_480 hS_473 [.int (nI tt)]) rfl rfl hl_466.1 rfl (lv_room (Nat.le_of_ble_eq_true rfl)) dX7_renderFurnace_83 ⟨by decide, by decide⟩) hS_473 (fun r_483 Y_482 H_484 locs_485 hW_486 hS_487 h_481 => ?_)
          obtain ⟨hr_488, hy_489⟩ := h_481
          dsimp only at hr_488 hy_489
          subst hr_488
          obtain ⟨w_491, ew_491⟩ : ∃ Z9, Z9 = decR w_477 (0 + 1 + sb_dg m1 + 1 + sb_dg m2 + 1) tt := ⟨_, rfl⟩
          obtain ⟨w_490, ew_490⟩ : ∃ Z9, Z9 = upd w_476 (10) (nI (0 + 1 + sb_dg m1 + 1 + sb_dg m2 + 1 + sb_dg tt)) := ⟨_, rfl⟩
          have kn_492 : w_490 (8) = 0 := by rw [ew_490]; exact (pk_un (by omega)).trans kn_478
          have kn_493 : w_490 (10) = nI (0 + 1 + sb_dg m1 + 1 + sb_dg m2 + 1 + sb_dg tt) := by rw [ew_490]; exact pk_us
          have hW_494 : Wd G (setRow (sbB X w_491) 11 w_490) H_484 := Wd.cast (by subst ew_490 ew_491; exact hy_489.trans sb_out) hW_486
          refine lv_pop hx hb dX7_renderFurnace_86 rfl ?_
          refine lv_aload_n hx hb dX7_renderFurnace_87 rfl (lv_at hl_466 3 rfl) ?_
          refine gF_output C hW_494 (hwc hwX7) (mc qw_294) dX7_renderFurnace_88 ?_
          refine g_calli (va_runV (As := []) (rest := []) C.1 (cJ4_length_8abf5_ok l G (setRow (sbB X w_491) 11 w_490) (0 + 1 + sb_dg m1 + 1 + sb_dg m2 + 1 + sb_dg tt) ((congrFun rd_out _).trans kn_493)) (cwV 0 C.1.2.2.2.2 (gV qw_767 qw_571 qw_1956 qw_78 qw_572) rfl rfl rfl (by decide +kernel) ⟨Nat.le_of_ble_eq_true rfl, Nat.le_of_ble_eq_true rfl⟩) (g_rSB C hW_494 hS_487 []) rfl rfl hl_466.1 rfl (lv_room (Nat.le_of_ble_eq_true rfl)) dX7_renderFurnace_91 ⟨by decide, by decide⟩) hS_487 (fun r_497 Y_496 H_498 locs_499 hW_500 hS_501 h_495 => ?_)
          obtain ⟨h_495, hy_502⟩ := h_495
          replace hy_502 := hy_502.symm
          subst hy_502
          subst h_495
          refine W.widen (k := 7) (n := 42) (by decide) (by decide) ?_
          refine vx_ret ?_
          exact g_iret C hr hlk hW_500 hS_501 dX7_renderFurnace_94 (by have e9 : rfS (X.1 0) (9 + 6 * (nI f_15).toNatClampNeg) X.2.2.2.1 = (0 + 1 + sb_dg m1 + 1 + sb_dg m2 + 1 + sb_dg tt, w_491) := (by subst ew_490; subst ew_491; subst ew_476; subst ew_477; subst ew_455; subst ew_456; subst ew_441; subst ew_442; subst ew_313; subst ew_314; subst ew_299; subst ew_300; subst ew_25; simp only [rfS, rfM, ltN, clf (show f_15 < 2 ^ 31 by omega), em0, em1, em2, em3, em4, clf (show m0 < 2 ^ 31 by omega), clf (show m1 < 2 ^ 31 by omega), clf (show m2 < 2 ^ 31 by omega), clf (show m3 < 2 ^ 31 by omega), clf (show tt < 2 ^ 31 by omega), b_33, b_38, b_322, b_464, if_true, if_false]); subst ew_490; subst ew_491; subst ew_476; subst ew_477; subst ew_455; subst ew_456; subst ew_441; subst ew_442; subst ew_313; subst ew_314; subst ew_299; subst ew_300; subst ew_25; exact ⟨⟨b_14, by rw [e9]⟩, X.2.1, X.2.2.1, _, by rw [hcap, e9]; exact ⟨hcp.1, hcp.2, by dsimp only; omega⟩, fun j _ => rfl, (BOk_rfS hby (by rw [clf (show f_15 < 2 ^ 31 by omega)]; exact mass_small (hmass f_15 hf_15))), by rw [e9]; simp only [slR_eq, uu10]⟩)
        · have fb_464 : ¬ m3 ≤ 0 := fun q9 => b_464 ((nI_leI (a := m3) (b := 0) (by omega) (by omega)).mpr q9)
          refine lv_aload_n hx hb dX7_renderFurnace_46 rfl (lv_at hl_463 3 rfl) ?_
          refine gF_output C hW_459 (hwc hwX7) (mc qw_294) dX7_renderFurnace_47 ?_
          refine g_ltS C hS_452 (mc qw_831) dX7_renderFurnace_50 ?_
          refine lv_iload_n hx hb dX7_renderFurnace_53 rfl (lv_at hl_463 1 rfl) ?_
          refine g_lt (v := 111) C hS_452 (vlit (by decide)) rfl dX7_renderFurnace_54 ?_
          refine g_callr (va_runV (As := [.int 111]) (rest := []) C.1 (cJ4_append_cf468_ok l G (setRow (sbB X w_456) 11 w_455) cp hcp hcap ((congrFun rd_out _).trans kn_457) (0 + 1 + sb_dg m1 + 1 + sb_dg m2) ((congrFun rd_out _).trans kn_458) (by omega) 111 (by decide)) (cwV 1 C.1.2.2.2.2 (gV qw_745 qw_746 qw_747 qw_78 qw_748) rfl rfl rfl (by decide +kernel) ⟨Nat.le_of_ble_eq_true rfl, Nat.le_of_ble_eq_true rfl⟩) (g_rSB C hW_459 hS_452 [.int 111]) rfl rfl hl_463.1 rfl (lv_room (Nat.le_of_ble_eq_true rfl)) dX7_renderFurnace_55 ⟨by decide, by decide⟩) hS_452 (fun r_505 Y_504 H_506 locs_507 hW_508 hS_509 h_503 => ?_)
          obtain ⟨hr_510, hy_511⟩ := h_503
          dsimp only at hr_510 hy_511
          subst hr_510
          obtain ⟨w_513, ew_513⟩ : ∃ Z9, Z9 = upd w_456 (0 + 1 + sb_dg m1 + 1 + sb_dg m2) (nI 111) := ⟨_, rfl⟩
          obtain ⟨w_512, ew_512⟩ : ∃ Z9, Z9 = upd w_455 (10) (nI (0 + 1 + sb_dg m1 + 1 + sb_dg m2 + 1)) := ⟨_, rfl⟩
          have kn_514 : w_512 (8) = 0 := by rw [ew_512]; exact (pk_un (by omega)).trans kn_457
          have kn_515 : w_512 (10) = nI (0 + 1 + sb_dg m1 + 1 + sb_dg m2 + 1) := by rw [ew_512]; exact pk_us
          have hW_516 : Wd G (setRow (sbB X w_513) 11 w_512) H_506 := Wd.cast (by subst ew_512 ew_513; exact hy_511.trans sb_out) hW_508
          refine lv_iload hx hb dX7_renderFurnace_58 (lv_at hl_463 0 rfl) ?_
          refine g_callr (va_runV (As := [.int (nI m3)]) (rest := []) C.1 (cJ4_append_bf812_ok l G (setRow (sbB X w_513) 11 w_512) cp hcp hcap ((congrFun rd_out _).trans kn_514) (0 + 1 + sb_dg m1 + 1 + sb_dg m2 + 1) ((congrFun rd_out _).trans kn_515) m3 (show m3 < 10000 by omega) (show 0 + 1 + sb_dg m1 + 1 + sb_dg m2 + 1 + sb_dg m3 ≤ cp by omega)) (cwV 1 C.1.2.2.2.2 (gV qw_1319 qw_525 qw_526 qw_78 qw_527) rfl rfl rfl (by decide +kernel) ⟨Nat.le_of_ble_eq_true rfl, Nat.le_of_ble_eq_true rfl⟩) (g_rSB C hW_516 hS_509 [.int (nI m3)]) rfl rfl hl_463.1 rfl (lv_room (Nat.le_of_ble_eq_true rfl)) dX7_renderFurnace_60 ⟨by decide, by decide⟩) hS_509 (fun r_519 Y_518 H_520 locs_521 hW_522 hS_523 h_517 => ?_)
          obtain ⟨hr_524, hy_525⟩ := h_517
          dsimp only at hr_524 hy_525
          subst hr_524
          obtain ⟨w_527, ew_527⟩ : ∃ Z9, Z9 = decR w_513 (0 + 1 + sb_dg m1 + 1 + sb_dg m2 + 1) m3 := ⟨_, rfl⟩
          obtain ⟨w_526, ew_526⟩ : ∃ Z9, Z9 = upd w_512 (10) (nI (0 + 1 + sb_dg m1 + 1 + sb_dg m2 + 1 + sb_dg m3)) := ⟨_, rfl⟩
          have kn_528 : w_526 (8) = 0 := by rw [ew_526]; exact (pk_un (by omega)).trans kn_514
          have kn_529 : w_526 (10) = nI (0 + 1 + sb_dg m1 + 1 + sb_dg m2 + 1 + sb_dg m3) := by rw [ew_526]; exact pk_us
          have hW_530 : Wd G (setRow (sbB X w_527) 11 w_526) H_520 := Wd.cast (by subst ew_526 ew_527; exact hy_525.trans sb_out) hW_522
          refine lv_pop hx hb dX7_renderFurnace_63 rfl ?_
          refine lv_iinc (v := 4) (lv' := [(3, .int 4), (4, .int (nI m3)), (2, .ref (ad G (65 * 0 + (11 + 3 * f_15)))), (0, .ref (ad G 715)), (1, .int (nI f_15))]) hx hb dX7_renderFurnace_64 hl_463 (k := 1) rfl (by decide) (by decide) rfl (fun ls_531 hl_532 => ?_)
          refine lv_goto (tgt := 25) hx hb dX7_renderFurnace_67 (by decide) ?_
          refine lv_iload_n hx hb dX7_renderFurnace_25 rfl (lv_at hl_532 0 rfl) ?_
          refine lv_iconst (v := 4) hx hb dX7_renderFurnace_26 (by decide) ?_
          refine lv_icmp_ge (tgt := 70) hx hb dX7_renderFurnace_27 (by decide) (fun _ => ?_) (fun h9 => absurd h9 (by decide))
          refine lv_aload_n hx hb dX7_renderFurnace_70 rfl (lv_at hl_532 3 rfl) ?_
          refine gF_output C hW_530 (hwc hwX7) (mc qw_294) dX7_renderFurnace_71 ?_
          refine lv_bipush (v := 64) hx hb dX7_renderFurnace_74 (by decide) ?_
          refine g_callr (va_runV (As := [.int 64]) (rest := []) C.1 (cJ4_append_cf468_ok l G (setRow (sbB X w_527) 11 w_526) cp hcp hcap ((congrFun rd_out _).trans kn_528) (0 + 1 + sb_dg m1 + 1 + sb_dg m2 + 1 + sb_dg m3) ((congrFun rd_out _).trans kn_529) (by omega) 64 (by decide)) (cwV 1 C.1.2.2.2.2 (gV qw_745 qw_746 qw_747 qw_78 qw_748) rfl rfl rfl (by decide +kernel) ⟨Nat.le_of_ble_eq_true rfl, Nat.le_of_ble_eq_true rfl⟩) (g_rSB C hW_530 hS_523 [.int 64]) rfl rfl hl_532.1 rfl (lv_room (Nat.le_of_ble_eq_true rfl)) dX7_renderFurnace_76 ⟨by decide, by decide⟩) hS_523 (fun r_535 Y_534 H_536 locs_537 hW_538 hS_539 h_533 => ?_)
          obtain ⟨hr_540, hy_541⟩ := h_533
          dsimp only at hr_540 hy_541
          subst hr_540
          obtain ⟨w_543, ew_543⟩ : ∃ Z9, Z9 = upd w_527 (0 + 1 + sb_dg m1 + 1 + sb_dg m2 + 1 + sb_dg m3) (nI 64) := ⟨_, rfl⟩
          obtain ⟨w_542, ew_542⟩ : ∃ Z9, Z9 = upd w_526 (10) (nI (0 + 1 + sb_dg m1 + 1 + sb_dg m2 + 1 + sb_dg m3 + 1)) := ⟨_, rfl⟩
          have kn_544 : w_542 (8) = 0 := by rw [ew_542]; exact (pk_un (by omega)).trans kn_528
          have kn_545 : w_542 (10) = nI (0 + 1 + sb_dg m1 + 1 + sb_dg m2 + 1 + sb_dg m3 + 1) := by rw [ew_542]; exact pk_us
          have hW_546 : Wd G (setRow (sbB X w_543) 11 w_542) H_536 := Wd.cast (by subst ew_542 ew_543; exact hy_541.trans sb_out) hW_538
          refine lv_aload_n hx hb dX7_renderFurnace_79 rfl (lv_at hl_532 2 rfl) ?_
          refine g_tempN C hW_546 (ves_fur (G := G) h0_11 hf_15) (hwc hwX6) nw_3 dX7_renderFurnace_80 ?_
          refine g_top (y := X.1 0 (9 + 6 * f_15 + 4)) (congrFun (rd_in (by decide) rfl) _) ?_
          refine g_top (y := nI tt) em4 ?_
          refine g_callr (va_runV (As := [.int (nI tt)]) (rest := []) C.1 (cJ4_append_bf812_ok l G (setRow (sbB X w_543) 11 w_542) cp hcp hcap ((congrFun rd_out _).trans kn_544) (0 + 1 + sb_dg m1 + 1 + sb_dg m2 + 1 + sb_dg m3 + 1) ((congrFun rd_out _).trans kn_545) tt (show tt < 10000 by omega) (show 0 + 1 + sb_dg m1 + 1 + sb_dg m2 + 1 + sb_dg m3 + 1 + sb_dg tt ≤ cp by omega)) (cwV 1 C.1.2.2.2.2 (gV qw_1319 qw_525 qw_526 qw_78 qw_527) rfl rfl rfl (by decide +kernel) ⟨Nat.le_of_ble_eq_true rfl, Nat.le_of_ble_eq_true rfl⟩) (g_rSB C hW_546 hS_539 [.int (nI tt)]) rfl rfl hl_532.1 rfl (lv_room (Nat.le_of_ble_eq_true rfl)) dX7_renderFurnace_83 ⟨by decide, by decide⟩) hS_539 (fun r_549 Y_548 H_550 locs_551 hW_552 hS_553 h_547 => ?_)
          obtain ⟨hr_554, hy_555⟩ := h_547
          dsimp only at hr_554 hy_555
          subst hr_554
          obtain ⟨w_557, ew_557⟩ : ∃ Z9, Z9 = decR w_543 (0 + 1 + sb_dg m1 + 1 + sb_dg m2 + 1 + sb_dg m3 + 1) tt := ⟨_, rfl⟩
          obtain ⟨w_556, ew_556⟩ : ∃ Z9, Z9 = upd w_542 (10) (nI (0 + 1 + sb_dg m1 + 1 + sb_dg m2 + 1 + sb_dg m3 + 1 + sb_dg tt)) := ⟨_, rfl⟩
          have kn_558 : w_556 (8) = 0 := by rw [ew_556]; exact (pk_un (by omega)).trans kn_544
          have kn_559 : w_556 (10) = nI (0 + 1 + sb_dg m1 + 1 + sb_dg m2 + 1 + sb_dg m3 + 1 + sb_dg tt) := by rw [ew_556]; exact pk_us
          have hW_560 : Wd G (setRow (sbB X w_557) 11 w_556) H_550 := Wd.cast (by subst ew_556 ew_557; exact hy_555.trans sb_out) hW_552
          refine lv_pop hx hb dX7_renderFurnace_86 rfl ?_
          refine lv_aload_n hx hb dX7_renderFurnace_87 rfl (lv_at hl_532 3 rfl) ?_
          refine gF_output C hW_560 (hwc hwX7) (mc qw_294) dX7_renderFurnace_88 ?_
          refine g_calli (va_runV (As := []) (rest := []) C.1 (cJ4_length_8abf5_ok l G (setRow (sbB X w_557) 11 w_556) (0 + 1 + sb_dg m1 + 1 + sb_dg m2 + 1 + sb_dg m3 + 1 + sb_dg tt) ((congrFun rd_out _).trans kn_559)) (cwV 0 C.1.2.2.2.2 (gV qw_767 qw_571 qw_1956 qw_78 qw_572) rfl rfl rfl (by decide +kernel) ⟨Nat.le_of_ble_eq_true rfl, Nat.le_of_ble_eq_true rfl⟩) (g_rSB C hW_560 hS_553 []) rfl rfl hl_532.1 rfl (lv_room (Nat.le_of_ble_eq_true rfl)) dX7_renderFurnace_91 ⟨by decide, by decide⟩) hS_553 (fun r_563 Y_562 H_564 locs_565 hW_566 hS_567 h_561 => ?_)
          obtain ⟨h_561, hy_568⟩ := h_561
          replace hy_568 := hy_568.symm
          subst hy_568
          subst h_561
          refine W.widen (k := 7) (n := 42) (by decide) (by decide) ?_
          refine vx_ret ?_
          exact g_iret C hr hlk hW_566 hS_567 dX7_renderFurnace_94 (by have e9 : rfS (X.1 0) (9 + 6 * (nI f_15).toNatClampNeg) X.2.2.2.1 = (0 + 1 + sb_dg m1 + 1 + sb_dg m2 + 1 + sb_dg m3 + 1 + sb_dg tt, w_557) := (by subst ew_556; subst ew_557; subst ew_542; subst ew_543; subst ew_526; subst ew_527; subst ew_512; subst ew_513; subst ew_455; subst ew_456; subst ew_441; subst ew_442; subst ew_313; subst ew_314; subst ew_299; subst ew_300; subst ew_25; simp only [rfS, rfM, ltN, clf (show f_15 < 2 ^ 31 by omega), em0, em1, em2, em3, em4, clf (show m0 < 2 ^ 31 by omega), clf (show m1 < 2 ^ 31 by omega), clf (show m2 < 2 ^ 31 by omega), clf (show m3 < 2 ^ 31 by omega), clf (show tt < 2 ^ 31 by omega), b_33, b_38, b_322, b_464, if_true, if_false]); subst ew_556; subst ew_557; subst ew_542; subst ew_543; subst ew_526; subst ew_527; subst ew_512; subst ew_513; subst ew_455; subst ew_456; subst ew_441; subst ew_442; subst ew_313; subst ew_314; subst ew_299; subst ew_300; subst ew_25; exact ⟨⟨b_14, by rw [e9]⟩, X.2.1, X.2.2.1, _, by rw [hcap, e9]; exact ⟨hcp.1, hcp.2, by dsimp only; omega⟩, fun j _ => rfl, (BOk_rfS hby (by rw [clf (show f_15 < 2 ^ 31 by omega)]; exact mass_small (hmass f_15 hf_15))), by rw [e9]; simp only [slR_eq, uu10]⟩)
  · have fb_33 : ¬ m0 ≤ 0 := fun q9 => b_33 ((nI_leI (a := m0) (b := 0) (by omega) (by omega)).mpr q9)
    refine lv_aload_n hx hb dX7_renderFurnace_46 rfl (lv_at hl_32 3 rfl) ?_
    refine gF_output C hW_28 (hwc hwX7) (mc qw_294) dX7_renderFurnace_47 ?_
    refine g_ltS C hS_24 (mc qw_831) dX7_renderFurnace_50 ?_
    refine lv_iload_n hx hb dX7_renderFurnace_53 rfl (lv_at hl_32 1 rfl) ?_
    refine g_lt (v := 99) C hS_24 (vlit (by decide)) rfl dX7_renderFurnace_54 ?_
    refine g_callr (va_runV (As := [.int 99]) (rest := []) C.1 (cJ4_append_cf468_ok l G (setRow X 11 w_25) cp hcp hcap ((congrFun rd_out _).trans kn_26) 0 ((congrFun rd_out _).trans kn_27) (by omega) 99 (by decide)) (cwV 1 C.1.2.2.2.2 (gV qw_745 qw_746 qw_747 qw_78 qw_748) rfl rfl rfl (by decide +kernel) ⟨Nat.le_of_ble_eq_true rfl, Nat.le_of_ble_eq_true rfl⟩) (g_rSB C hW_28 hS_24 [.int 99]) rfl rfl hl_32.1 rfl (lv_room (Nat.le_of_ble_eq_true rfl)) dX7_renderFurnace_55 ⟨by decide, by decide⟩) hS_24 (fun r_571 Y_570 H_572 locs_573 hW_574 hS_575 h_569 => ?_)
    obtain ⟨hr_576, hy_577⟩ := h_569
    dsimp only at hr_576 hy_577
    subst hr_576
    obtain ⟨w_579, ew_579⟩ : ∃ Z9, Z9 = upd X.2.2.2.1 0 (nI 99) := ⟨_, rfl⟩
    obtain ⟨w_578, ew_578⟩ : ∃ Z9, Z9 = upd w_25 (10) (nI (0 + 1)) := ⟨_, rfl⟩
    have kn_580 : w_578 (8) = 0 := by rw [ew_578]; exact (pk_un (by omega)).trans kn_26
    have kn_581 : w_578 (10) = nI (0 + 1) := by rw [ew_578]; exact pk_us
    have hW_582 : Wd G (setRow (sbB X w_579) 11 w_578) H_572 := Wd.cast (by subst ew_578 ew_579; exact hy_577.trans sb_out1) hW_574
    refine lv_iload hx hb dX7_renderFurnace_58 (lv_at hl_32 0 rfl) ?_
    refine g_callr (va_runV (As := [.int (nI m0)]) (rest := []) C.1 (cJ4_append_bf812_ok l G (setRow (sbB X w_579) 11 w_578) cp hcp hcap ((congrFun rd_out _).trans kn_580) (0 + 1) ((congrFun rd_out _).trans kn_581) m0 (show m0 < 10000 by omega) (show 0 + 1 + sb_dg m0 ≤ cp by omega)) (cwV 1 C.1.2.2.2.2 (gV qw_1319 qw_525 qw_526 qw_78 qw_527) rfl rfl rfl (by decide +kernel) ⟨Nat.le_of_ble_eq_true rfl, Nat.le_of_ble_eq_true rfl⟩) (g_rSB C hW_582 hS_575 [.int (nI m0)]) rfl rfl hl_32.1 rfl (lv_room (Nat.le_of_ble_eq_true rfl)) dX7_renderFurnace_60 ⟨by decide, by decide⟩) hS_575 (fun r_585 Y_584 H_586 locs_587 hW_588 hS_589 h_583 => ?_)
    obtain ⟨hr_590, hy_591⟩ := h_583
    dsimp only at hr_590 hy_591
    subst hr_590
    obtain ⟨w_593, ew_593⟩ : ∃ Z9, Z9 = decR w_579 (0 + 1) m0 := ⟨_, rfl⟩
    obtain ⟨w_592, ew_592⟩ : ∃ Z9, Z9 = upd w_578 (10) (nI (0 + 1 + sb_dg m0)) := ⟨_, rfl⟩
    have kn_594 : w_592 (8) = 0 := by rw [ew_592]; exact (pk_un (by omega)).trans kn_580
    have kn_595 : w_592 (10) = nI (0 + 1 + sb_dg m0) := by rw [ew_592]; exact pk_us
    have hW_596 : Wd G (setRow (sbB X w_593) 11 w_592) H_586 := Wd.cast (by subst ew_592 ew_593; exact hy_591.trans sb_out) hW_588
    refine lv_pop hx hb dX7_renderFurnace_63 rfl ?_
    refine lv_iinc (v := 1) (lv' := [(3, .int 1), (4, .int (nI m0)), (2, .ref (ad G (65 * 0 + (11 + 3 * f_15)))), (0, .ref (ad G 715)), (1, .int (nI f_15))]) hx hb dX7_renderFurnace_64 hl_32 (k := 1) rfl (by decide) (by decide) rfl (fun ls_597 hl_598 => ?_)
    refine lv_goto (tgt := 25) hx hb dX7_renderFurnace_67 (by decide) ?_
    refine lv_iload_n hx hb dX7_renderFurnace_25 rfl (lv_at hl_598 0 rfl) ?_
    refine lv_iconst (v := 4) hx hb dX7_renderFurnace_26 (by decide) ?_
    refine lv_icmp_ge (tgt := 70) hx hb dX7_renderFurnace_27 (by decide) (fun h9 => absurd h9 (by decide)) (fun _ => ?_)
    refine lv_aload_n hx hb dX7_renderFurnace_30 rfl (lv_at hl_598 2 rfl) ?_
    refine g_contentN C hW_596 (ves_fur (G := G) h0_11 hf_15) (hwc hwX6) nw_1 dX7_renderFurnace_31 ?_
    refine g_massesN C hW_596 (ves_fur (G := G) h0_11 hf_15).mix (hwc hwX3) nw_2 dX7_renderFurnace_34 ?_
    refine lv_iload_n hx hb dX7_renderFurnace_37 rfl (lv_at hl_598 0 rfl) ?_
    refine g_mld C hW_596 (ves_fur (G := G) h0_11 hf_15).mix 1 (by decide) (vlit (by decide)) dX7_renderFurnace_38 ?_
    refine g_top (y := X.1 0 (9 + 6 * f_15 + 1)) (congrFun (rd_in (by decide) rfl) _) ?_
    refine g_top (y := nI m1) em1 ?_
    refine lv_istore (lv' := [(4, .int (nI m1)), (3, .int 1), (2, .ref (ad G (65 * 0 + (11 + 3 * f_15)))), (0, .ref (ad G 715)), (1, .int (nI f_15))]) hx hb dX7_renderFurnace_39 hl_598 (by decide) rfl (fun ls_599 hl_600 => ?_)
    refine lv_iload hx hb dX7_renderFurnace_41 (lv_at hl_600 0 rfl) ?_
    refine lv_if_le (tgt := 64) hx hb dX7_renderFurnace_43 (by decide) (fun b_601 => ?_) (fun b_601 => ?_)
    · have fb_601 : m1 ≤ 0 := (nI_leI (a := m1) (b := 0) (by omega) (by omega)).mp b_601
      refine lv_iinc (v := 2) (lv' := [(3, .int 2), (4, .int (nI m1)), (2, .ref (ad G (65 * 0 + (11 + 3 * f_15)))), (0, .ref (ad G 715)), (1, .int (nI f_15))]) hx hb dX7_renderFurnace_64 hl_600 (k := 1) rfl (by decide) (by decide) rfl (fun ls_602 hl_603 => ?_)
      refine lv_goto (tgt := 25) hx hb dX7_renderFurnace_67 (by decide) ?_
      refine lv_iload_n hx hb dX7_renderFurnace_25 rfl (lv_at hl_603 0 rfl) ?_
      refine lv_iconst (v := 4) hx hb dX7_renderFurnace_26 (by decide) ?_
      refine lv_icmp_ge (tgt := 70) hx hb dX7_renderFurnace_27 (by decide) (fun h9 => absurd h9 (by decide)) (fun _ => ?_)
      refine lv_aload_n hx hb dX7_renderFurnace_30 rfl (lv_at hl_603 2 rfl) ?_
      refine g_contentN C hW_596 (ves_fur (G := G) h0_11 hf_15) (hwc hwX6) nw_1 dX7_renderFurnace_31 ?_
      refine g_massesN C hW_596 (ves_fur (G := G) h0_11 hf_15).mix (hwc hwX3) nw_2 dX7_renderFurnace_34 ?_
      refine lv_iload_n hx hb dX7_renderFurnace_37 rfl (lv_at hl_603 0 rfl) ?_
      refine g_mld C hW_596 (ves_fur (G := G) h0_11 hf_15).mix 2 (by decide) (vlit (by decide)) dX7_renderFurnace_38 ?_
      refine g_top (y := X.1 0 (9 + 6 * f_15 + 2)) (congrFun (rd_in (by decide) rfl) _) ?_
      refine g_top (y := nI m2) em2 ?_
      refine lv_istore (lv' := [(4, .int (nI m2)), (3, .int 2), (2, .ref (ad G (65 * 0 + (11 + 3 * f_15)))), (0, .ref (ad G 715)), (1, .int (nI f_15))]) hx hb dX7_renderFurnace_39 hl_603 (by decide) rfl (fun ls_604 hl_605 => ?_)
      refine lv_iload hx hb dX7_renderFurnace_41 (lv_at hl_605 0 rfl) ?_
      refine lv_if_le (tgt := 64) hx hb dX7_renderFurnace_43 (by decide) (fun b_606 => ?_) (fun b_606 => ?_)
      · have fb_606 : m2 ≤ 0 := (nI_leI (a := m2) (b := 0) (by omega) (by omega)).mp b_606
        refine lv_iinc (v := 3) (lv' := [(3, .int 3), (4, .int (nI m2)), (2, .ref (ad G (65 * 0 + (11 + 3 * f_15)))), (0, .ref (ad G 715)), (1, .int (nI f_15))]) hx hb dX7_renderFurnace_64 hl_605 (k := 1) rfl (by decide) (by decide) rfl (fun ls_607 hl_608 => ?_)
        refine lv_goto (tgt := 25) hx hb dX7_renderFurnace_67 (by decide) ?_
        refine lv_iload_n hx hb dX7_renderFurnace_25 rfl (lv_at hl_608 0 rfl) ?_
        refine lv_iconst (v := 4) hx hb dX7_renderFurnace_26 (by decide) ?_
        refine lv_icmp_ge (tgt := 70) hx hb dX7_renderFurnace_27 (by decide) (fun h9 => absurd h9 (by decide)) (fun _ => ?_)
        refine lv_aload_n hx hb dX7_renderFurnace_30 rfl (lv_at hl_608 2 rfl) ?_
        refine g_contentN C hW_596 (ves_fur (G := G) h0_11 hf_15) (hwc hwX6) nw_1 dX7_renderFurnace_31 ?_
        refine g_massesN C hW_596 (ves_fur (G := G) h0_11 hf_15).mix (hwc hwX3) nw_2 dX7_renderFurnace_34 ?_
        refine lv_iload_n hx hb dX7_renderFurnace_37 rfl (lv_at hl_608 0 rfl) ?_
        refine g_mld C hW_596 (ves_fur (G := G) h0_11 hf_15).mix 3 (by decide) (vlit (by decide)) dX7_renderFurnace_38 ?_
        refine g_top (y := X.1 0 (9 + 6 * f_15 + 3)) (congrFun (rd_in (by decide) rfl) _) ?_
        refine g_top (y := nI m3) em3 ?_
        refine lv_istore (lv' := [(4, .int (nI m3)), (3, .int 3), (2, .ref (ad G (65 * 0 + (11 + 3 * f_15)))), (0, .ref (ad G 715)), (1, .int (nI f_15))]) hx hb dX7_renderFurnace_39 hl_608 (by decide) rfl (fun ls_609 hl_610 => ?_)
        refine lv_iload hx hb dX7_renderFurnace_41 (lv_at hl_610 0 rfl) ?_
        refine lv_if_le (tgt := 64) hx hb dX7_renderFurnace_43 (by decide) (fun b_611 => ?_) (fun b_611 => ?_)
        · have fb_611 : m3 ≤ 0 := (nI_leI (a := m3) (b := 0) (by omega) (by omega)).mp b_611
          refine lv_iinc (v := 4) (lv' := [(3, .int 4), (4, .int (nI m3)), (2, .ref (ad G (65 * 0 + (11 + 3 * f_15)))), (0, .ref (ad G 715)), (1, .int (nI f_15))]) hx hb dX7_renderFurnace_64 hl_610 (k := 1) rfl (by decide) (by decide) rfl (fun ls_612 hl_613 => ?_)
          refine lv_goto (tgt := 25) hx hb dX7_renderFurnace_67 (by decide) ?_
          refine lv_iload_n hx hb dX7_renderFurnace_25 rfl (lv_at hl_613 0 rfl) ?_
          refine lv_iconst (v := 4) hx hb dX7_renderFurnace_26 (by decide) ?_
          refine lv_icmp_ge (tgt := 70) hx hb dX7_renderFurnace_27 (by decide) (fun _ => ?_) (fun h9 => absurd h9 (by decide))
          refine lv_aload_n hx hb dX7_renderFurnace_70 rfl (lv_at hl_613 3 rfl) ?_
          refine gF_output C hW_596 (hwc hwX7) (mc qw_294) dX7_renderFurnace_71 ?_
          refine lv_bipush (v := 64) hx hb dX7_renderFurnace_74 (by decide) ?_
          refine g_callr (va_runV (As := [.int 64]) (rest := []) C.1 (cJ4_append_cf468_ok l G (setRow (sbB X w_593) 11 w_592) cp hcp hcap ((congrFun rd_out _).trans kn_594) (0 + 1 + sb_dg m0) ((congrFun rd_out _).trans kn_595) (by omega) 64 (by decide)) (cwV 1 C.1.2.2.2.2 (gV qw_745 qw_746 qw_747 qw_78 qw_748) rfl rfl rfl (by decide +kernel) ⟨Nat.le_of_ble_eq_true rfl, Nat.le_of_ble_eq_true rfl⟩) (g_rSB C hW_596 hS_589 [.int 64]) rfl rfl hl_613.1 rfl (lv_room (Nat.le_of_ble_eq_true rfl)) dX7_renderFurnace_76 ⟨by decide, by decide⟩) hS_589 (fun r_616 Y_615 H_617 locs_618 hW_619 hS_620 h_614 => ?_)
          obtain ⟨hr_621, hy_622⟩ := h_614
          dsimp only at hr_621 hy_622
          subst hr_621
          obtain ⟨w_624, ew_624⟩ : ∃ Z9, Z9 = upd w_593 (0 + 1 + sb_dg m0) (nI 64) := ⟨_, rfl⟩
          obtain ⟨w_623, ew_623⟩ : ∃ Z9, Z9 = upd w_592 (10) (nI (0 + 1 + sb_dg m0 + 1)) := ⟨_, rfl⟩
          have kn_625 : w_623 (8) = 0 := by rw [ew_623]; exact (pk_un (by omega)).trans kn_594
          have kn_626 : w_623 (10) = nI (0 + 1 + sb_dg m0 + 1) := by rw [ew_623]; exact pk_us
          have hW_627 : Wd G (setRow (sbB X w_624) 11 w_623) H_617 := Wd.cast (by subst ew_623 ew_624; exact hy_622.trans sb_out) hW_619
          refine lv_aload_n hx hb dX7_renderFurnace_79 rfl (lv_at hl_613 2 rfl) ?_
          refine g_tempN C hW_627 (ves_fur (G := G) h0_11 hf_15) (hwc hwX6) nw_3 dX7_renderFurnace_80 ?_
          refine g_top (y := X.1 0 (9 + 6 * f_15 + 4)) (congrFun (rd_in (by decide) rfl) _) ?_
          refine g_top (y := nI tt) em4 ?_
          refine g_callr (va_runV (As := [.int (nI tt)]) (rest := []) C.1 (cJ4_append_bf812_ok l G (setRow (sbB X w_624) 11 w_623) cp hcp hcap ((congrFun rd_out _).trans kn_625) (0 + 1 + sb_dg m0 + 1) ((congrFun rd_out _).trans kn_626) tt (show tt < 10000 by omega) (show 0 + 1 + sb_dg m0 + 1 + sb_dg tt ≤ cp by omega)) (cwV 1 C.1.2.2.2.2 (gV qw_1319 qw_525 qw_526 qw_78 qw_527) rfl rfl rfl (by decide +kernel) ⟨Nat.le_of_ble_eq_true rfl, Nat.le_of_ble_eq_true rfl⟩) (g_rSB C hW_627 hS_620 [.int (nI tt)]) rfl rfl hl_613.1 rfl (lv_room (Nat.le_of_ble_eq_true rfl)) dX7_renderFurnace_83 ⟨by decide, by decide⟩) hS_620 (fun r_630 Y_629 H_631 locs_632 hW_633 hS_634 h_628 => ?_)
          obtain ⟨hr_635, hy_636⟩ := h_628
          dsimp only at hr_635 hy_636
          subst hr_635
          obtain ⟨w_638, ew_638⟩ : ∃ Z9, Z9 = decR w_624 (0 + 1 + sb_dg m0 + 1) tt := ⟨_, rfl⟩
          obtain ⟨w_637, ew_637⟩ : ∃ Z9, Z9 = upd w_623 (10) (nI (0 + 1 + sb_dg m0 + 1 + sb_dg tt)) := ⟨_, rfl⟩
          have kn_639 : w_637 (8) = 0 := by rw [ew_637]; exact (pk_un (by omega)).trans kn_625
          have kn_640 : w_637 (10) = nI (0 + 1 + sb_dg m0 + 1 + sb_dg tt) := by rw [ew_637]; exact pk_us
          have hW_641 : Wd G (setRow (sbB X w_638) 11 w_637) H_631 := Wd.cast (by subst ew_637 ew_638; exact hy_636.trans sb_out) hW_633
          refine lv_pop hx hb dX7_renderFurnace_86 rfl ?_
          refine lv_aload_n hx hb dX7_renderFurnace_87 rfl (lv_at hl_613 3 rfl) ?_
          refine gF_output C hW_641 (hwc hwX7) (mc qw_294) dX7_renderFurnace_88 ?_
          refine g_calli (va_runV (As := []) (rest := []) C.1 (cJ4_length_8abf5_ok l G (setRow (sbB X w_638) 11 w_637) (0 + 1 + sb_dg m0 + 1 + sb_dg tt) ((congrFun rd_out _).trans kn_640)) (cwV 0 C.1.2.2.2.2 (gV qw_767 qw_571 qw_1956 qw_78 qw_572) rfl rfl rfl (by decide +kernel) ⟨Nat.le_of_ble_eq_true rfl, Nat.le_of_ble_eq_true rfl⟩) (g_rSB C hW_641 hS_634 []) rfl rfl hl_613.1 rfl (lv_room (Nat.le_of_ble_eq_true rfl)) dX7_renderFurnace_91 ⟨by decide, by decide⟩) hS_634 (fun r_644 Y_643 H_645 locs_646 hW_647 hS_648 h_642 => ?_)
          obtain ⟨h_642, hy_649⟩ := h_642
          replace hy_649 := hy_649.symm
          subst hy_649
          subst h_642
          refine W.widen (k := 7) (n := 42) (by decide) (by decide) ?_
          refine vx_ret ?_
          exact g_iret C hr hlk hW_647 hS_648 dX7_renderFurnace_94 (by have e9 : rfS (X.1 0) (9 + 6 * (nI f_15).toNatClampNeg) X.2.2.2.1 = (0 + 1 + sb_dg m0 + 1 + sb_dg tt, w_638) := (by subst ew_637; subst ew_638; subst ew_623; subst ew_624; subst ew_592; subst ew_593; subst ew_578; subst ew_579; subst ew_25; simp only [rfS, rfM, ltN, clf (show f_15 < 2 ^ 31 by omega), em0, em1, em2, em3, em4, clf (show m0 < 2 ^ 31 by omega), clf (show m1 < 2 ^ 31 by omega), clf (show m2 < 2 ^ 31 by omega), clf (show m3 < 2 ^ 31 by omega), clf (show tt < 2 ^ 31 by omega), b_33, b_601, b_606, b_611, if_true, if_false]); subst ew_637; subst ew_638; subst ew_623; subst ew_624; subst ew_592; subst ew_593; subst ew_578; subst ew_579; subst ew_25; exact ⟨⟨b_14, by rw [e9]⟩, X.2.1, X.2.2.1, _, by rw [hcap, e9]; exact ⟨hcp.1, hcp.2, by dsimp only; omega⟩, fun j _ => rfl, (BOk_rfS hby (by rw [clf (show f_15 < 2 ^ 31 by omega)]; exact mass_small (hmass f_15 hf_15))), by rw [e9]; simp only [slR_eq, uu10]⟩)
        · have fb_611 : ¬ m3 ≤ 0 := fun q9 => b_611 ((nI_leI (a := m3) (b := 0) (by omega) (by omega)).mpr q9)
          refine lv_aload_n hx hb dX7_renderFurnace_46 rfl (lv_at hl_610 3 rfl) ?_
          refine gF_output C hW_596 (hwc hwX7) (mc qw_294) dX7_renderFurnace_47 ?_
          refine g_ltS C hS_589 (mc qw_831) dX7_renderFurnace_50 ?_
          refine lv_iload_n hx hb dX7_renderFurnace_53 rfl (lv_at hl_610 1 rfl) ?_
          refine g_lt (v := 111) C hS_589 (vlit (by decide)) rfl dX7_renderFurnace_54 ?_
          refine g_callr (va_runV (As := [.int 111]) (rest := []) C.1 (cJ4_append_cf468_ok l G (setRow (sbB X w_593) 11 w_592) cp hcp hcap ((congrFun rd_out _).trans kn_594) (0 + 1 + sb_dg m0) ((congrFun rd_out _).trans kn_595) (by omega) 111 (by decide)) (cwV 1 C.1.2.2.2.2 (gV qw_745 qw_746 qw_747 qw_78 qw_748) rfl rfl rfl (by decide +kernel) ⟨Nat.le_of_ble_eq_true rfl, Nat.le_of_ble_eq_true rfl⟩) (g_rSB C hW_596 hS_589 [.int 111]) rfl rfl hl_610.1 rfl (lv_room (Nat.le_of_ble_eq_true rfl)) dX7_renderFurnace_55 ⟨by decide, by decide⟩) hS_589 (fun r_652 Y_651 H_653 locs_654 hW_655 hS_656 h_650 => ?_)
          obtain ⟨hr_657, hy_658⟩ := h_650
          dsimp only at hr_657 hy_658
          subst hr_657
          obtain ⟨w_660, ew_660⟩ : ∃ Z9, Z9 = upd w_593 (0 + 1 + sb_dg m0) (nI 111) := ⟨_, rfl⟩
          obtain ⟨w_659, ew_659⟩ : ∃ Z9, Z9 = upd w_592 (10) (nI (0 + 1 + sb_dg m0 + 1)) := ⟨_, rfl⟩
          have kn_661 : w_659 (8) = 0 := by rw [ew_659]; exact (pk_un (by omega)).trans kn_594
          have kn_662 : w_659 (10) = nI (0 + 1 + sb_dg m0 + 1) := by rw [ew_659]; exact pk_us
          have hW_663 : Wd G (setRow (sbB X w_660) 11 w_659) H_653 := Wd.cast (by subst ew_659 ew_660; exact hy_658.trans sb_out) hW_655
          refine lv_iload hx hb dX7_renderFurnace_58 (lv_at hl_610 0 rfl) ?_
          refine g_callr (va_runV (As := [.int (nI m3)]) (rest := []) C.1 (cJ4_append_bf812_ok l G (setRow (sbB X w_660) 11 w_659) cp hcp hcap ((congrFun rd_out _).trans kn_661) (0 + 1 + sb_dg m0 + 1) ((congrFun rd_out _).trans kn_662) m3 (show m3 < 10000 by omega) (show 0 + 1 + sb_dg m0 + 1 + sb_dg m3 ≤ cp by omega)) (cwV 1 C.1.2.2.2.2 (gV qw_1319 qw_525 qw_526 qw_78 qw_527) rfl rfl rfl (by decide +kernel) ⟨Nat.le_of_ble_eq_true rfl, Nat.le_of_ble_eq_true rfl⟩) (g_rSB C hW_663 hS_656 [.int (nI m3)]) rfl rfl hl_610.1 rfl (lv_room (Nat.le_of_ble_eq_true rfl)) dX7_renderFurnace_60 ⟨by decide, by decide⟩) hS_656 (fun r_666 Y_665 H_667 locs_668 hW_669 hS_670 h_664 => ?_)
          obtain ⟨hr_671, hy_672⟩ := h_664
          dsimp only at hr_671 hy_672
          subst hr_671
          obtain ⟨w_674, ew_674⟩ : ∃ Z9, Z9 = decR w_660 (0 + 1 + sb_dg m0 + 1) m3 := ⟨_, rfl⟩
          obtain ⟨w_673, ew_673⟩ : ∃ Z9, Z9 = upd w_659 (10) (nI (0 + 1 + sb_dg m0 + 1 + sb_dg m3)) := ⟨_, rfl⟩
          have kn_675 : w_673 (8) = 0 := by rw [ew_673]; exact (pk_un (by omega)).trans kn_661
          have kn_676 : w_673 (10) = nI (0 + 1 + sb_dg m0 + 1 + sb_dg m3) := by rw [ew_673]; exact pk_us
          have hW_677 : Wd G (setRow (sbB X w_674) 11 w_673) H_667 := Wd.cast (by subst ew_673 ew_674; exact hy_672.trans sb_out) hW_669
          refine lv_pop hx hb dX7_renderFurnace_63 rfl ?_
          refine lv_iinc (v := 4) (lv' := [(3, .int 4), (4, .int (nI m3)), (2, .ref (ad G (65 * 0 + (11 + 3 * f_15)))), (0, .ref (ad G 715)), (1, .int (nI f_15))]) hx hb dX7_renderFurnace_64 hl_610 (k := 1) rfl (by decide) (by decide) rfl (fun ls_678 hl_679 => ?_)
          refine lv_goto (tgt := 25) hx hb dX7_renderFurnace_67 (by decide) ?_
          refine lv_iload_n hx hb dX7_renderFurnace_25 rfl (lv_at hl_679 0 rfl) ?_
          refine lv_iconst (v := 4) hx hb dX7_renderFurnace_26 (by decide) ?_
          refine lv_icmp_ge (tgt := 70) hx hb dX7_renderFurnace_27 (by decide) (fun _ => ?_) (fun h9 => absurd h9 (by decide))
          refine lv_aload_n hx hb dX7_renderFurnace_70 rfl (lv_at hl_679 3 rfl) ?_
          refine gF_output C hW_677 (hwc hwX7) (mc qw_294) dX7_renderFurnace_71 ?_
          refine lv_bipush (v := 64) hx hb dX7_renderFurnace_74 (by decide) ?_
          refine g_callr (va_runV (As := [.int 64]) (rest := []) C.1 (cJ4_append_cf468_ok l G (setRow (sbB X w_674) 11 w_673) cp hcp hcap ((congrFun rd_out _).trans kn_675) (0 + 1 + sb_dg m0 + 1 + sb_dg m3) ((congrFun rd_out _).trans kn_676) (by omega) 64 (by decide)) (cwV 1 C.1.2.2.2.2 (gV qw_745 qw_746 qw_747 qw_78 qw_748) rfl rfl rfl (by decide +kernel) ⟨Nat.le_of_ble_eq_true rfl, Nat.le_of_ble_eq_true rfl⟩) (g_rSB C hW_677 hS_670 [.int 64]) rfl rfl hl_679.1 rfl (lv_room (Nat.le_of_ble_eq_true rfl)) dX7_renderFurnace_76 ⟨by decide, by decide⟩) hS_670 (fun r_682 Y_681 H_683 locs_684 hW_685 hS_686 h_680 => ?_)
          obtain ⟨hr_687, hy_688⟩ := h_680
          dsimp only at hr_687 hy_688
          subst hr_687
          obtain ⟨w_690, ew_690⟩ : ∃ Z9, Z9 = upd w_674 (0 + 1 + sb_dg m0 + 1 + sb_dg m3) (nI 64) := ⟨_, rfl⟩
          obtain ⟨w_689, ew_689⟩ : ∃ Z9, Z9 = upd w_673 (10) (nI (0 + 1 + sb_dg m0 + 1 + sb_dg m3 + 1)) := ⟨_, rfl⟩
          have kn_691 : w_689 (8) = 0 := by rw [ew_689]; exact (pk_un (by omega)).trans kn_675
          have kn_692 : w_689 (10) = nI (0 + 1 + sb_dg m0 + 1 + sb_dg m3 + 1) := by rw [ew_689]; exact pk_us
          have hW_693 : Wd G (setRow (sbB X w_690) 11 w_689) H_683 := Wd.cast (by subst ew_689 ew_690; exact hy_688.trans sb_out) hW_685
          refine lv_aload_n hx hb dX7_renderFurnace_79 rfl (lv_at hl_679 2 rfl) ?_
          refine g_tempN C hW_693 (ves_fur (G := G) h0_11 hf_15) (hwc hwX6) nw_3 dX7_renderFurnace_80 ?_
          refine g_top (y := X.1 0 (9 + 6 * f_15 + 4)) (congrFun (rd_in (by decide) rfl) _) ?_
          refine g_top (y := nI tt) em4 ?_
          refine g_callr (va_runV (As := [.int (nI tt)]) (rest := []) C.1 (cJ4_append_bf812_ok l G (setRow (sbB X w_690) 11 w_689) cp hcp hcap ((congrFun rd_out _).trans kn_691) (0 + 1 + sb_dg m0 + 1 + sb_dg m3 + 1) ((congrFun rd_out _).trans kn_692) tt (show tt < 10000 by omega) (show 0 + 1 + sb_dg m0 + 1 + sb_dg m3 + 1 + sb_dg tt ≤ cp by omega)) (cwV 1 C.1.2.2.2.2 (gV qw_1319 qw_525 qw_526 qw_78 qw_527) rfl rfl rfl (by decide +kernel) ⟨Nat.le_of_ble_eq_true rfl, Nat.le_of_ble_eq_true rfl⟩) (g_rSB C hW_693 hS_686 [.int (nI tt)]) rfl rfl hl_679.1 rfl (lv_room (Nat.le_of_ble_eq_true rfl)) dX7_renderFurnace_83 ⟨by decide, by decide⟩) hS_686 (fun r_696 Y_695 H_697 locs_698 hW_699 hS_700 h_694 => ?_)
          obtain ⟨hr_701, hy_702⟩ := h_694
          dsimp only at hr_701 hy_702
          subst hr_701
          obtain ⟨w_704, ew_704⟩ : ∃ Z9, Z9 = decR w_690 (0 + 1 + sb_dg m0 + 1 + sb_dg m3 + 1) tt := ⟨_, rfl⟩
          obtain ⟨w_703, ew_703⟩ : ∃ Z9, Z9 = upd w_689 (10) (nI (0 + 1 + sb_dg m0 + 1 + sb_dg m3 + 1 + sb_dg tt)) := ⟨_, rfl⟩
          have kn_705 : w_703 (8) = 0 := by rw [ew_703]; exact (pk_un (by omega)).trans kn_691
          have kn_706 : w_703 (10) = nI (0 + 1 + sb_dg m0 + 1 + sb_dg m3 + 1 + sb_dg tt) := by rw [ew_703]; exact pk_us
          have hW_707 : Wd G (setRow (sbB X w_704) 11 w_703) H_697 := Wd.cast (by subst ew_703 ew_704; exact hy_702.trans sb_out) hW_699
          refine lv_pop hx hb dX7_renderFurnace_86 rfl ?_
          refine lv_aload_n hx hb dX7_renderFurnace_87 rfl (lv_at hl_679 3 rfl) ?_
          refine gF_output C hW_707 (hwc hwX7) (mc qw_294) dX7_renderFurnace_88 ?_
          refine g_calli (va_runV (As := []) (rest := []) C.1 (cJ4_length_8abf5_ok l G (setRow (sbB X w_704) 11 w_703) (0 + 1 + sb_dg m0 + 1 + sb_dg m3 + 1 + sb_dg tt) ((congrFun rd_out _).trans kn_706)) (cwV 0 C.1.2.2.2.2 (gV qw_767 qw_571 qw_1956 qw_78 qw_572) rfl rfl rfl (by decide +kernel) ⟨Nat.le_of_ble_eq_true rfl, Nat.le_of_ble_eq_true rfl⟩) (g_rSB C hW_707 hS_700 []) rfl rfl hl_679.1 rfl (lv_room (Nat.le_of_ble_eq_true rfl)) dX7_renderFurnace_91 ⟨by decide, by decide⟩) hS_700 (fun r_710 Y_709 H_711 locs_712 hW_713 hS_714 h_708 => ?_)
          obtain ⟨h_708, hy_715⟩ := h_708
          replace hy_715 := hy_715.symm
          subst hy_715
          subst h_708
          refine W.widen (k := 7) (n := 42) (by decide) (by decide) ?_
          refine vx_ret ?_
          exact g_iret C hr hlk hW_713 hS_714 dX7_renderFurnace_94 (by have e9 : rfS (X.1 0) (9 + 6 * (nI f_15).toNatClampNeg) X.2.2.2.1 = (0 + 1 + sb_dg m0 + 1 + sb_dg m3 + 1 + sb_dg tt, w_704) := (by subst ew_703; subst ew_704; subst ew_689; subst ew_690; subst ew_673; subst ew_674; subst ew_659; subst ew_660; subst ew_592; subst ew_593; subst ew_578; subst ew_579; subst ew_25; simp only [rfS, rfM, ltN, clf (show f_15 < 2 ^ 31 by omega), em0, em1, em2, em3, em4, clf (show m0 < 2 ^ 31 by omega), clf (show m1 < 2 ^ 31 by omega), clf (show m2 < 2 ^ 31 by omega), clf (show m3 < 2 ^ 31 by omega), clf (show tt < 2 ^ 31 by omega), b_33, b_601, b_606, b_611, if_true, if_false]); subst ew_703; subst ew_704; subst ew_689; subst ew_690; subst ew_673; subst ew_674; subst ew_659; subst ew_660; subst ew_592; subst ew_593; subst ew_578; subst ew_579; subst ew_25; exact ⟨⟨b_14, by rw [e9]⟩, X.2.1, X.2.2.1, _, by rw [hcap, e9]; exact ⟨hcp.1, hcp.2, by dsimp only; omega⟩, fun j _ => rfl, (BOk_rfS hby (by rw [clf (show f_15 < 2 ^ 31 by omega)]; exact mass_small (hmass f_15 hf_15))), by rw [e9]; simp only [slR_eq, uu10]⟩)
      · have fb_606 : ¬ m2 ≤ 0 := fun q9 => b_606 ((nI_leI (a := m2) (b := 0) (by omega) (by omega)).mpr q9)
        refine lv_aload_n hx hb dX7_renderFurnace_46 rfl (lv_at hl_605 3 rfl) ?_
        refine gF_output C hW_596 (hwc hwX7) (mc qw_294) dX7_renderFurnace_47 ?_
        refine g_ltS C hS_589 (mc qw_831) dX7_renderFurnace_50 ?_
        refine lv_iload_n hx hb dX7_renderFurnace_53 rfl (lv_at hl_605 1 rfl) ?_
        refine g_lt (v := 108) C hS_589 (vlit (by decide)) rfl dX7_renderFurnace_54 ?_
        refine g_callr (va_runV (As := [.int 108]) (rest := []) C.1 (cJ4_append_cf468_ok l G (setRow (sbB X w_593) 11 w_592) cp hcp hcap ((congrFun rd_out _).trans kn_594) (0 + 1 + sb_dg m0) ((congrFun rd_out _).trans kn_595) (by omega) 108 (by decide)) (cwV 1 C.1.2.2.2.2 (gV qw_745 qw_746 qw_747 qw_78 qw_748) rfl rfl rfl (by decide +kernel) ⟨Nat.le_of_ble_eq_true rfl, Nat.le_of_ble_eq_true rfl⟩) (g_rSB C hW_596 hS_589 [.int 108]) rfl rfl hl_605.1 rfl (lv_room (Nat.le_of_ble_eq_true rfl)) dX7_renderFurnace_55 ⟨by decide, by decide⟩) hS_589 (fun r_718 Y_717 H_719 locs_720 hW_721 hS_722 h_716 => ?_)
        obtain ⟨hr_723, hy_724⟩ := h_716
        dsimp only at hr_723 hy_724
        subst hr_723
        obtain ⟨w_726, ew_726⟩ : ∃ Z9, Z9 = upd w_593 (0 + 1 + sb_dg m0) (nI 108) := ⟨_, rfl⟩
        obtain ⟨w_725, ew_725⟩ : ∃ Z9, Z9 = upd w_592 (10) (nI (0 + 1 + sb_dg m0 + 1)) := ⟨_, rfl⟩
        have kn_727 : w_725 (8) = 0 := by rw [ew_725]; exact (pk_un (by omega)).trans kn_594
        have kn_728 : w_725 (10) = nI (0 + 1 + sb_dg m0 + 1) := by rw [ew_725]; exact pk_us
        have hW_729 : Wd G (setRow (sbB X w_726) 11 w_725) H_719 := Wd.cast (by subst ew_725 ew_726; exact hy_724.trans sb_out) hW_721
        refine lv_iload hx hb dX7_renderFurnace_58 (lv_at hl_605 0 rfl) ?_
        refine g_callr (va_runV (As := [.int (nI m2)]) (rest := []) C.1 (cJ4_append_bf812_ok l G (setRow (sbB X w_726) 11 w_725) cp hcp hcap ((congrFun rd_out _).trans kn_727) (0 + 1 + sb_dg m0 + 1) ((congrFun rd_out _).trans kn_728) m2 (show m2 < 10000 by omega) (show 0 + 1 + sb_dg m0 + 1 + sb_dg m2 ≤ cp by omega)) (cwV 1 C.1.2.2.2.2 (gV qw_1319 qw_525 qw_526 qw_78 qw_527) rfl rfl rfl (by decide +kernel) ⟨Nat.le_of_ble_eq_true rfl, Nat.le_of_ble_eq_true rfl⟩) (g_rSB C hW_729 hS_722 [.int (nI m2)]) rfl rfl hl_605.1 rfl (lv_room (Nat.le_of_ble_eq_true rfl)) dX7_renderFurnace_60 ⟨by decide, by decide⟩) hS_722 (fun r_732 Y_731 H_733 locs_734 hW_735 hS_736 h_730 => ?_)
        obtain ⟨hr_737, hy_738⟩ := h_730
        dsimp only at hr_737 hy_738
        subst hr_737
        obtain ⟨w_740, ew_740⟩ : ∃ Z9, Z9 = decR w_726 (0 + 1 + sb_dg m0 + 1) m2 := ⟨_, rfl⟩
        obtain ⟨w_739, ew_739⟩ : ∃ Z9, Z9 = upd w_725 (10) (nI (0 + 1 + sb_dg m0 + 1 + sb_dg m2)) := ⟨_, rfl⟩
        have kn_741 : w_739 (8) = 0 := by rw [ew_739]; exact (pk_un (by omega)).trans kn_727
        have kn_742 : w_739 (10) = nI (0 + 1 + sb_dg m0 + 1 + sb_dg m2) := by rw [ew_739]; exact pk_us
        have hW_743 : Wd G (setRow (sbB X w_740) 11 w_739) H_733 := Wd.cast (by subst ew_739 ew_740; exact hy_738.trans sb_out) hW_735
        refine lv_pop hx hb dX7_renderFurnace_63 rfl ?_
        refine lv_iinc (v := 3) (lv' := [(3, .int 3), (4, .int (nI m2)), (2, .ref (ad G (65 * 0 + (11 + 3 * f_15)))), (0, .ref (ad G 715)), (1, .int (nI f_15))]) hx hb dX7_renderFurnace_64 hl_605 (k := 1) rfl (by decide) (by decide) rfl (fun ls_744 hl_745 => ?_)
        refine lv_goto (tgt := 25) hx hb dX7_renderFurnace_67 (by decide) ?_
        refine lv_iload_n hx hb dX7_renderFurnace_25 rfl (lv_at hl_745 0 rfl) ?_
        refine lv_iconst (v := 4) hx hb dX7_renderFurnace_26 (by decide) ?_
        refine lv_icmp_ge (tgt := 70) hx hb dX7_renderFurnace_27 (by decide) (fun h9 => absurd h9 (by decide)) (fun _ => ?_)
        refine lv_aload_n hx hb dX7_renderFurnace_30 rfl (lv_at hl_745 2 rfl) ?_
        refine g_contentN C hW_743 (ves_fur (G := G) h0_11 hf_15) (hwc hwX6) nw_1 dX7_renderFurnace_31 ?_
        refine g_massesN C hW_743 (ves_fur (G := G) h0_11 hf_15).mix (hwc hwX3) nw_2 dX7_renderFurnace_34 ?_
        refine lv_iload_n hx hb dX7_renderFurnace_37 rfl (lv_at hl_745 0 rfl) ?_
        refine g_mld C hW_743 (ves_fur (G := G) h0_11 hf_15).mix 3 (by decide) (vlit (by decide)) dX7_renderFurnace_38 ?_
        refine g_top (y := X.1 0 (9 + 6 * f_15 + 3)) (congrFun (rd_in (by decide) rfl) _) ?_
        refine g_top (y := nI m3) em3 ?_
        refine lv_istore (lv' := [(4, .int (nI m3)), (3, .int 3), (2, .ref (ad G (65 * 0 + (11 + 3 * f_15)))), (0, .ref (ad G 715)), (1, .int (nI f_15))]) hx hb dX7_renderFurnace_39 hl_745 (by decide) rfl (fun ls_746 hl_747 => ?_)
        refine lv_iload hx hb dX7_renderFurnace_41 (lv_at hl_747 0 rfl) ?_
        refine lv_if_le (tgt := 64) hx hb dX7_renderFurnace_43 (by decide) (fun b_748 => ?_) (fun b_748 => ?_)
        · have fb_748 : m3 ≤ 0 := (nI_leI (a := m3) (b := 0) (by omega) (by omega)).mp b_748
          refine lv_iinc (v := 4) (lv' := [(3, .int 4), (4, .int (nI m3)), (2, .ref (ad G (65 * 0 + (11 + 3 * f_15)))), (0, .ref (ad G 715)), (1, .int (nI f_15))]) hx hb dX7_renderFurnace_64 hl_747 (k := 1) rfl (by decide) (by decide) rfl (fun ls_749 hl_750 => ?_)
          refine lv_goto (tgt := 25) hx hb dX7_renderFurnace_67 (by decide) ?_
          refine lv_iload_n hx hb dX7_renderFurnace_25 rfl (lv_at hl_750 0 rfl) ?_
          refine lv_iconst (v := 4) hx hb dX7_renderFurnace_26 (by decide) ?_
          refine lv_icmp_ge (tgt := 70) hx hb dX7_renderFurnace_27 (by decide) (fun _ => ?_) (fun h9 => absurd h9 (by decide))
          refine lv_aload_n hx hb dX7_renderFurnace_70 rfl (lv_at hl_750 3 rfl) ?_
          refine gF_output C hW_743 (hwc hwX7) (mc qw_294) dX7_renderFurnace_71 ?_
          refine lv_bipush (v := 64) hx hb dX7_renderFurnace_74 (by decide) ?_
          refine g_callr (va_runV (As := [.int 64]) (rest := []) C.1 (cJ4_append_cf468_ok l G (setRow (sbB X w_740) 11 w_739) cp hcp hcap ((congrFun rd_out _).trans kn_741) (0 + 1 + sb_dg m0 + 1 + sb_dg m2) ((congrFun rd_out _).trans kn_742) (by omega) 64 (by decide)) (cwV 1 C.1.2.2.2.2 (gV qw_745 qw_746 qw_747 qw_78 qw_748) rfl rfl rfl (by decide +kernel) ⟨Nat.le_of_ble_eq_true rfl, Nat.le_of_ble_eq_true rfl⟩) (g_rSB C hW_743 hS_736 [.int 64]) rfl rfl hl_750.1 rfl (lv_room (Nat.le_of_ble_eq_true rfl)) dX7_renderFurnace_76 ⟨by decide, by decide⟩) hS_736 (fun r_753 Y_752 H_754 locs_755 hW_756 hS_757 h_751 => ?_)
          obtain ⟨hr_758, hy_759⟩ := h_751
          dsimp only at hr_758 hy_759
          subst hr_758
          obtain ⟨w_761, ew_761⟩ : ∃ Z9, Z9 = upd w_740 (0 + 1 + sb_dg m0 + 1 + sb_dg m2) (nI 64) := ⟨_, rfl⟩
          obtain ⟨w_760, ew_760⟩ : ∃ Z9, Z9 = upd w_739 (10) (nI (0 + 1 + sb_dg m0 + 1 + sb_dg m2 + 1)) := ⟨_, rfl⟩
          have kn_762 : w_760 (8) = 0 := by rw [ew_760]; exact (pk_un (by omega)).trans kn_741
          have kn_763 : w_760 (10) = nI (0 + 1 + sb_dg m0 + 1 + sb_dg m2 + 1) := by rw [ew_760]; exact pk_us
          have hW_764 : Wd G (setRow (sbB X w_761) 11 w_760) H_754 := Wd.cast (by subst ew_760 ew_761; exact hy_759.trans sb_out) hW_756
          refine lv_aload_n hx hb dX7_renderFurnace_79 rfl (lv_at hl_750 2 rfl) ?_
          refine g_tempN C hW_764 (ves_fur (G := G) h0_11 hf_15) (hwc hwX6) nw_3 dX7_renderFurnace_80 ?_
          refine g_top (y := X.1 0 (9 + 6 * f_15 + 4)) (congrFun (rd_in (by decide) rfl) _) ?_
          refine g_top (y := nI tt) em4 ?_
          refine g_callr (va_runV (As := [.int (nI tt)]) (rest := []) C.1 (cJ4_append_bf812_ok l G (setRow (sbB X w_761) 11 w_760) cp hcp hcap ((congrFun rd_out _).trans kn_762) (0 + 1 + sb_dg m0 + 1 + sb_dg m2 + 1) ((congrFun rd_out _).trans kn_763) tt (show tt < 10000 by omega) (show 0 + 1 + sb_dg m0 + 1 + sb_dg m2 + 1 + sb_dg tt ≤ cp by omega)) (cwV 1 C.1.2.2.2.2 (gV qw_1319 qw_525 qw_526 qw_78 qw_527) rfl rfl rfl (by decide +kernel) ⟨Nat.le_of_ble_eq_true rfl, Nat.le_of_ble_eq_true rfl⟩) (g_rSB C hW_764 hS_757 [.int (nI tt)]) rfl rfl hl_750.1 rfl (lv_room (Nat.le_of_ble_eq_true rfl)) dX7_renderFurnace_83 ⟨by decide, by decide⟩) hS_757 (fun r_767 Y_766 H_768 locs_769 hW_770 hS_771 h_765 => ?_)
          obtain ⟨hr_772, hy_773⟩ := h_765
          dsimp only at hr_772 hy_773
          subst hr_772
          obtain ⟨w_775, ew_775⟩ : ∃ Z9, Z9 = decR w_761 (0 + 1 + sb_dg m0 + 1 + sb_dg m2 + 1) tt := ⟨_, rfl⟩
          obtain ⟨w_774, ew_774⟩ : ∃ Z9, Z9 = upd w_760 (10) (nI (0 + 1 + sb_dg m0 + 1 + sb_dg m2 + 1 + sb_dg tt)) := ⟨_, rfl⟩
          have kn_776 : w_774 (8) = 0 := by rw [ew_774]; exact (pk_un (by omega)).trans kn_762
          have kn_777 : w_774 (10) = nI (0 + 1 + sb_dg m0 + 1 + sb_dg m2 + 1 + sb_dg tt) := by rw [ew_774]; exact pk_us
          have hW_778 : Wd G (setRow (sbB X w_775) 11 w_774) H_768 := Wd.cast (by subst ew_774 ew_775; exact hy_773.trans sb_out) hW_770
          refine lv_pop hx hb dX7_renderFurnace_86 rfl ?_
          refine lv_aload_n hx hb dX7_renderFurnace_87 rfl (lv_at hl_750 3 rfl) ?_
          refine gF_output C hW_778 (hwc hwX7) (mc qw_294) dX7_renderFurnace_88 ?_
          refine g_calli (va_runV (As := []) (rest := []) C.1 (cJ4_length_8abf5_ok l G (setRow (sbB X w_775) 11 w_774) (0 + 1 + sb_dg m0 + 1 + sb_dg m2 + 1 + sb_dg tt) ((congrFun rd_out _).trans kn_777)) (cwV 0 C.1.2.2.2.2 (gV qw_767 qw_571 qw_1956 qw_78 qw_572) rfl rfl rfl (by decide +kernel) ⟨Nat.le_of_ble_eq_true rfl, Nat.le_of_ble_eq_true rfl⟩) (g_rSB C hW_778 hS_771 []) rfl rfl hl_750.1 rfl (lv_room (Nat.le_of_ble_eq_true rfl)) dX7_renderFurnace_91 ⟨by decide, by decide⟩) hS_771 (fun r_781 Y_780 H_782 locs_783 hW_784 hS_785 h_779 => ?_)
          obtain ⟨h_779, hy_786⟩ := h_779
          replace hy_786 := hy_786.symm
          subst hy_786
          subst h_779
          refine W.widen (k := 7) (n := 42) (by decide) (by decide) ?_
          refine vx_ret ?_
          exact g_iret C hr hlk hW_784 hS_785 dX7_renderFurnace_94 (by have e9 : rfS (X.1 0) (9 + 6 * (nI f_15).toNatClampNeg) X.2.2.2.1 = (0 + 1 + sb_dg m0 + 1 + sb_dg m2 + 1 + sb_dg tt, w_775) := (by subst ew_774; subst ew_775; subst ew_760; subst ew_761; subst ew_739; subst ew_740; subst ew_725; subst ew_726; subst ew_592; subst ew_593; subst ew_578; subst ew_579; subst ew_25; simp only [rfS, rfM, ltN, clf (show f_15 < 2 ^ 31 by omega), em0, em1, em2, em3, em4, clf (show m0 < 2 ^ 31 by omega), clf (show m1 < 2 ^ 31 by omega), clf (show m2 < 2 ^ 31 by omega), clf (show m3 < 2 ^ 31 by omega), clf (show tt < 2 ^ 31 by omega), b_33, b_601, b_606, b_748, if_true, if_false]); subst ew_774; subst ew_775; subst ew_760; subst ew_761; subst ew_739; subst ew_740; subst ew_725; subst ew_726; subst ew_592; subst ew_593; subst ew_578; subst ew_579; subst ew_25; exact ⟨⟨b_14, by rw [e9]⟩, X.2.1, X.2.2.1, _, by rw [hcap, e9]; exact ⟨hcp.1, hcp.2, by dsimp only; omega⟩, fun j _ => rfl, (BOk_rfS hby (by rw [clf (show f_15 < 2 ^ 31 by omega)]; exact mass_small (hmass f_15 hf_15))), by rw [e9]; simp only [slR_eq, uu10]⟩)
        · have fb_748 : ¬ m3 ≤ 0 := fun q9 => b_748 ((nI_leI (a := m3) (b := 0) (by omega) (by omega)).mpr q9)
          refine lv_aload_n hx hb dX7_renderFurnace_46 rfl (lv_at hl_747 3 rfl) ?_
          refine gF_output C hW_743 (hwc hwX7) (mc qw_294) dX7_renderFurnace_47 ?_
          refine g_ltS C hS_736 (mc qw_831) dX7_renderFurnace_50 ?_
          refine lv_iload_n hx hb dX7_renderFurnace_53 rfl (lv_at hl_747 1 rfl) ?_
          refine g_lt (v := 111) C hS_736 (vlit (by decide)) rfl dX7_renderFurnace_54 ?_
          refine g_callr (va_runV (As := [.int 111]) (rest := []) C.1 (cJ4_append_cf468_ok l G (setRow (sbB X w_740) 11 w_739) cp hcp hcap ((congrFun rd_out _).trans kn_741) (0 + 1 + sb_dg m0 + 1 + sb_dg m2) ((congrFun rd_out _).trans kn_742) (by omega) 111 (by decide)) (cwV 1 C.1.2.2.2.2 (gV qw_745 qw_746 qw_747 qw_78 qw_748) rfl rfl rfl (by decide +kernel) ⟨Nat.le_of_ble_eq_true rfl, Nat.le_of_ble_eq_true rfl⟩) (g_rSB C hW_743 hS_736 [.int 111]) rfl rfl hl_747.1 rfl (lv_room (Nat.le_of_ble_eq_true rfl)) dX7_renderFurnace_55 ⟨by decide, by decide⟩) hS_736 (fun r_789 Y_788 H_790 locs_791 hW_792 hS_793 h_787 => ?_)
          obtain ⟨hr_794, hy_795⟩ := h_787
          dsimp only at hr_794 hy_795
          subst hr_794
          obtain ⟨w_797, ew_797⟩ : ∃ Z9, Z9 = upd w_740 (0 + 1 + sb_dg m0 + 1 + sb_dg m2) (nI 111) := ⟨_, rfl⟩
          obtain ⟨w_796, ew_796⟩ : ∃ Z9, Z9 = upd w_739 (10) (nI (0 + 1 + sb_dg m0 + 1 + sb_dg m2 + 1)) := ⟨_, rfl⟩
          have kn_798 : w_796 (8) = 0 := by rw [ew_796]; exact (pk_un (by omega)).trans kn_741
          have kn_799 : w_796 (10) = nI (0 + 1 + sb_dg m0 + 1 + sb_dg m2 + 1) := by rw [ew_796]; exact pk_us
          have hW_800 : Wd G (setRow (sbB X w_797) 11 w_796) H_790 := Wd.cast (by subst ew_796 ew_797; exact hy_795.trans sb_out) hW_792
          refine lv_iload hx hb dX7_renderFurnace_58 (lv_at hl_747 0 rfl) ?_
          refine g_callr (va_runV (As := [.int (nI m3)]) (rest := []) C.1 (cJ4_append_bf812_ok l G (setRow (sbB X w_797) 11 w_796) cp hcp hcap ((congrFun rd_out _).trans kn_798) (0 + 1 + sb_dg m0 + 1 + sb_dg m2 + 1) ((congrFun rd_out _).trans kn_799) m3 (show m3 < 10000 by omega) (show 0 + 1 + sb_dg m0 + 1 + sb_dg m2 + 1 + sb_dg m3 ≤ cp by omega)) (cwV 1 C.1.2.2.2.2 (gV qw_1319 qw_525 qw_526 qw_78 qw_527) rfl rfl rfl (by decide +kernel) ⟨Nat.le_of_ble_eq_true rfl, Nat.le_of_ble_eq_true rfl⟩) (g_rSB C hW_800 hS_793 [.int (nI m3)]) rfl rfl hl_747.1 rfl (lv_room (Nat.le_of_ble_eq_true rfl)) dX7_renderFurnace_60 ⟨by decide, by decide⟩) hS_793 (fun r_803 Y_802 H_804 locs_805 hW_806 hS_807 h_801 => ?_)
          obtain ⟨hr_808, hy_809⟩ := h_801
          dsimp only at hr_808 hy_809
          subst hr_808
          obtain ⟨w_811, ew_811⟩ : ∃ Z9, Z9 = decR w_797 (0 + 1 + sb_dg m0 + 1 + sb_dg m2 + 1) m3 := ⟨_, rfl⟩
          obtain ⟨w_810, ew_810⟩ : ∃ Z9, Z9 = upd w_796 (10) (nI (0 + 1 + sb_dg m0 + 1 + sb_dg m2 + 1 + sb_dg m3)) := ⟨_, rfl⟩
          have kn_812 : w_810 (8) = 0 := by rw [ew_810]; exact (pk_un (by omega)).trans kn_798
          have kn_813 : w_810 (10) = nI (0 + 1 + sb_dg m0 + 1 + sb_dg m2 + 1 + sb_dg m3) := by rw [ew_810]; exact pk_us
          have hW_814 : Wd G (setRow (sbB X w_811) 11 w_810) H_804 := Wd.cast (by subst ew_810 ew_811; exact hy_809.trans sb_out) hW_806
          refine lv_pop hx hb dX7_renderFurnace_63 rfl ?_
          refine lv_iinc (v := 4) (lv' := [(3, .int 4), (4, .int (nI m3)), (2, .ref (ad G (65 * 0 + (11 + 3 * f_15)))), (0, .ref (ad G 715)), (1, .int (nI f_15))]) hx hb dX7_renderFurnace_64 hl_747 (k := 1) rfl (by decide) (by decide) rfl (fun ls_815 hl_816 => ?_)
          refine lv_goto (tgt := 25) hx hb dX7_renderFurnace_67 (by decide) ?_
          refine lv_iload_n hx hb dX7_renderFurnace_25 rfl (lv_at hl_816 0 rfl) ?_
          refine lv_iconst (v := 4) hx hb dX7_renderFurnace_26 (by decide) ?_
          refine lv_icmp_ge (tgt := 70) hx hb dX7_renderFurnace_27 (by decide) (fun _ => ?_) (fun h9 => absurd h9 (by decide))
          refine lv_aload_n hx hb dX7_renderFurnace_70 rfl (lv_at hl_816 3 rfl) ?_
          refine gF_output C hW_814 (hwc hwX7) (mc qw_294) dX7_renderFurnace_71 ?_
          refine lv_bipush (v := 64) hx hb dX7_renderFurnace_74 (by decide) ?_
          refine g_callr (va_runV (As := [.int 64]) (rest := []) C.1 (cJ4_append_cf468_ok l G (setRow (sbB X w_811) 11 w_810) cp hcp hcap ((congrFun rd_out _).trans kn_812) (0 + 1 + sb_dg m0 + 1 + sb_dg m2 + 1 + sb_dg m3) ((congrFun rd_out _).trans kn_813) (by omega) 64 (by decide)) (cwV 1 C.1.2.2.2.2 (gV qw_745 qw_746 qw_747 qw_78 qw_748) rfl rfl rfl (by decide +kernel) ⟨Nat.le_of_ble_eq_true rfl, Nat.le_of_ble_eq_true rfl⟩) (g_rSB C hW_814 hS_807 [.int 64]) rfl rfl hl_816.1 rfl (lv_room (Nat.le_of_ble_eq_true rfl)) dX7_renderFurnace_76 ⟨by decide, by decide⟩) hS_807 (fun r_819 Y_818 H_820 locs_821 hW_822 hS_823 h_817 => ?_)
          obtain ⟨hr_824, hy_825⟩ := h_817
          dsimp only at hr_824 hy_825
          subst hr_824
          obtain ⟨w_827, ew_827⟩ : ∃ Z9, Z9 = upd w_811 (0 + 1 + sb_dg m0 + 1 + sb_dg m2 + 1 + sb_dg m3) (nI 64) := ⟨_, rfl⟩
          obtain ⟨w_826, ew_826⟩ : ∃ Z9, Z9 = upd w_810 (10) (nI (0 + 1 + sb_dg m0 + 1 + sb_dg m2 + 1 + sb_dg m3 + 1)) := ⟨_, rfl⟩
          have kn_828 : w_826 (8) = 0 := by rw [ew_826]; exact (pk_un (by omega)).trans kn_812
          have kn_829 : w_826 (10) = nI (0 + 1 + sb_dg m0 + 1 + sb_dg m2 + 1 + sb_dg m3 + 1) := by rw [ew_826]; exact pk_us
          have hW_830 : Wd G (setRow (sbB X w_827) 11 w_826) H_820 := Wd.cast (by subst ew_826 ew_827; exact hy_825.trans sb_out) hW_822
          refine lv_aload_n hx hb dX7_renderFurnace_79 rfl (lv_at hl_816 2 rfl) ?_
          refine g_tempN C hW_830 (ves_fur (G := G) h0_11 hf_15) (hwc hwX6) nw_3 dX7_renderFurnace_80 ?_
          refine g_top (y := X.1 0 (9 + 6 * f_15 + 4)) (congrFun (rd_in (by decide) rfl) _) ?_
          refine g_top (y := nI tt) em4 ?_
          refine g_callr (va_runV (As := [.int (nI tt)]) (rest := []) C.1 (cJ4_append_bf812_ok l G (setRow (sbB X w_827) 11 w_826) cp hcp hcap ((congrFun rd_out _).trans kn_828) (0 + 1 + sb_dg m0 + 1 + sb_dg m2 + 1 + sb_dg m3 + 1) ((congrFun rd_out _).trans kn_829) tt (show tt < 10000 by omega) (show 0 + 1 + sb_dg m0 + 1 + sb_dg m2 + 1 + sb_dg m3 + 1 + sb_dg tt ≤ cp by omega)) (cwV 1 C.1.2.2.2.2 (gV qw_1319 qw_525 qw_526 qw_78 qw_527) rfl rfl rfl (by decide +kernel) ⟨Nat.le_of_ble_eq_true rfl, Nat.le_of_ble_eq_true rfl⟩) (g_rSB C hW_830 hS_823 [.int (nI tt)]) rfl rfl hl_816.1 rfl (lv_room (Nat.le_of_ble_eq_true rfl)) dX7_renderFurnace_83 ⟨by decide, by decide⟩) hS_823 (fun r_833 Y_832 H_834 locs_835 hW_836 hS_837 h_831 => ?_)
          obtain ⟨hr_838, hy_839⟩ := h_831
          dsimp only at hr_838 hy_839
          subst hr_838
          obtain ⟨w_841, ew_841⟩ : ∃ Z9, Z9 = decR w_827 (0 + 1 + sb_dg m0 + 1 + sb_dg m2 + 1 + sb_dg m3 + 1) tt := ⟨_, rfl⟩
          obtain ⟨w_840, ew_840⟩ : ∃ Z9, Z9 = upd w_826 (10) (nI (0 + 1 + sb_dg m0 + 1 + sb_dg m2 + 1 + sb_dg m3 + 1 + sb_dg tt)) := ⟨_, rfl⟩
          have kn_842 : w_840 (8) = 0 := by rw [ew_840]; exact (pk_un (by omega)).trans kn_828
          have kn_843 : w_840 (10) = nI (0 + 1 + sb_dg m0 + 1 + sb_dg m2 + 1 + sb_dg m3 + 1 + sb_dg tt) := by rw [ew_840]; exact pk_us
          have hW_844 : Wd G (setRow (sbB X w_841) 11 w_840) H_834 := Wd.cast (by subst ew_840 ew_841; exact hy_839.trans sb_out) hW_836
          refine lv_pop hx hb dX7_renderFurnace_86 rfl ?_
          refine lv_aload_n hx hb dX7_renderFurnace_87 rfl (lv_at hl_816 3 rfl) ?_
          refine gF_output C hW_844 (hwc hwX7) (mc qw_294) dX7_renderFurnace_88 ?_
          refine g_calli (va_runV (As := []) (rest := []) C.1 (cJ4_length_8abf5_ok l G (setRow (sbB X w_841) 11 w_840) (0 + 1 + sb_dg m0 + 1 + sb_dg m2 + 1 + sb_dg m3 + 1 + sb_dg tt) ((congrFun rd_out _).trans kn_843)) (cwV 0 C.1.2.2.2.2 (gV qw_767 qw_571 qw_1956 qw_78 qw_572) rfl rfl rfl (by decide +kernel) ⟨Nat.le_of_ble_eq_true rfl, Nat.le_of_ble_eq_true rfl⟩) (g_rSB C hW_844 hS_837 []) rfl rfl hl_816.1 rfl (lv_room (Nat.le_of_ble_eq_true rfl)) dX7_renderFurnace_91 ⟨by decide, by decide⟩) hS_837 (fun r_847 Y_846 H_848 locs_849 hW_850 hS_851 h_845 => ?_)
          obtain ⟨h_845, hy_852⟩ := h_845
          replace hy_852 := hy_852.symm
          subst hy_852
          subst h_845
          refine W.widen (k := 7) (n := 42) (by decide) (by decide) ?_
          refine vx_ret ?_
          exact g_iret C hr hlk hW_850 hS_851 dX7_renderFurnace_94 (by have e9 : rfS (X.1 0) (9 + 6 * (nI f_15).toNatClampNeg) X.2.2.2.1 = (0 + 1 + sb_dg m0 + 1 + sb_dg m2 + 1 + sb_dg m3 + 1 + sb_dg tt, w_841) := (by subst ew_840; subst ew_841; subst ew_826; subst ew_827; subst ew_810; subst ew_811; subst ew_796; subst ew_797; subst ew_739; subst ew_740; subst ew_725; subst ew_726; subst ew_592; subst ew_593; subst ew_578; subst ew_579; subst ew_25; simp only [rfS, rfM, ltN, clf (show f_15 < 2 ^ 31 by omega), em0, em1, em2, em3, em4, clf (show m0 < 2 ^ 31 by omega), clf (show m1 < 2 ^ 31 by omega), clf (show m2 < 2 ^ 31 by omega), clf (show m3 < 2 ^ 31 by omega), clf (show tt < 2 ^ 31 by omega), b_33, b_601, b_606, b_748, if_true, if_false]); subst ew_840; subst ew_841; subst ew_826; subst ew_827; subst ew_810; subst ew_811; subst ew_796; subst ew_797; subst ew_739; subst ew_740; subst ew_725; subst ew_726; subst ew_592; subst ew_593; subst ew_578; subst ew_579; subst ew_25; exact ⟨⟨b_14, by rw [e9]⟩, X.2.1, X.2.2.1, _, by rw [hcap, e9]; exact ⟨hcp.1, hcp.2, by dsimp only; omega⟩, fun j _ => rfl, (BOk_rfS hby (by rw [clf (show f_15 < 2 ^ 31 by omega)]; exact mass_small (hmass f_15 hf_15))), by rw [e9]; simp only [slR_eq, uu10]⟩)
    · have fb_601 : ¬ m1 ≤ 0 := fun q9 => b_601 ((nI_leI (a := m1) (b := 0) (by omega) (by omega)).mpr q9)
      refine lv_aload_n hx hb dX7_renderFurnace_46 rfl (lv_at hl_600 3 rfl) ?_
      refine gF_output C hW_596 (hwc hwX7) (mc qw_294) dX7_renderFurnace_47 ?_
      refine g_ltS C hS_589 (mc qw_831) dX7_renderFurnace_50 ?_
      refine lv_iload_n hx hb dX7_renderFurnace_53 rfl (lv_at hl_600 1 rfl) ?_
      refine g_lt (v := 116) C hS_589 (vlit (by decide)) rfl dX7_renderFurnace_54 ?_
      refine g_callr (va_runV (As := [.int 116]) (rest := []) C.1 (cJ4_append_cf468_ok l G (setRow (sbB X w_593) 11 w_592) cp hcp hcap ((congrFun rd_out _).trans kn_594) (0 + 1 + sb_dg m0) ((congrFun rd_out _).trans kn_595) (by omega) 116 (by decide)) (cwV 1 C.1.2.2.2.2 (gV qw_745 qw_746 qw_747 qw_78 qw_748) rfl rfl rfl (by decide +kernel) ⟨Nat.le_of_ble_eq_true rfl, Nat.le_of_ble_eq_true rfl⟩) (g_rSB C hW_596 hS_589 [.int 116]) rfl rfl hl_600.1 rfl (lv_room (Nat.le_of_ble_eq_true rfl)) dX7_renderFurnace_55 ⟨by decide, by decide⟩) hS_589 (fun r_855 Y_854 H_856 locs_857 hW_858 hS_859 h_853 => ?_)
      obtain ⟨hr_860, hy_861⟩ := h_853
      dsimp only at hr_860 hy_861
      subst hr_860
      obtain ⟨w_863, ew_863⟩ : ∃ Z9, Z9 = upd w_593 (0 + 1 + sb_dg m0) (nI 116) := ⟨_, rfl⟩
      obtain ⟨w_862, ew_862⟩ : ∃ Z9, Z9 = upd w_592 (10) (nI (0 + 1 + sb_dg m0 + 1)) := ⟨_, rfl⟩
      have kn_864 : w_862 (8) = 0 := by rw [ew_862]; exact (pk_un (by omega)).trans kn_594
      have kn_865 : w_862 (10) = nI (0 + 1 + sb_dg m0 + 1) := by rw [ew_862]; exact pk_us
      have hW_866 : Wd G (setRow (sbB X w_863) 11 w_862) H_856 := Wd.cast (by subst ew_862 ew_863; exact hy_861.trans sb_out) hW_858
      refine lv_iload hx hb dX7_renderFurnace_58 (lv_at hl_600 0 rfl) ?_
      refine g_callr (va_runV (As := [.int (nI m1)]) (rest := []) C.1 (cJ4_append_bf812_ok l G (setRow (sbB X w_863) 11 w_862) cp hcp hcap ((congrFun rd_out _).trans kn_864) (0 + 1 + sb_dg m0 + 1) ((congrFun rd_out _).trans kn_865) m1 (show m1 < 10000 by omega) (show 0 + 1 + sb_dg m0 + 1 + sb_dg m1 ≤ cp by omega)) (cwV 1 C.1.2.2.2.2 (gV qw_1319 qw_525 qw_526 qw_78 qw_527) rfl rfl rfl (by decide +kernel) ⟨Nat.le_of_ble_eq_true rfl, Nat.le_of_ble_eq_true rfl⟩) (g_rSB C hW_866 hS_859 [.int (nI m1)]) rfl rfl hl_600.1 rfl (lv_room (Nat.le_of_ble_eq_true rfl)) dX7_renderFurnace_60 ⟨by decide, by decide⟩) hS_859 (fun r_869 Y_868 H_870 locs_871 hW_872 hS_873 h_867 => ?_)
      obtain ⟨hr_874, hy_875⟩ := h_867
      dsimp only at hr_874 hy_875
      subst hr_874
      obtain ⟨w_877, ew_877⟩ : ∃ Z9, Z9 = decR w_863 (0 + 1 + sb_dg m0 + 1) m1 := ⟨_, rfl⟩
      obtain ⟨w_876, ew_876⟩ : ∃ Z9, Z9 = upd w_862 (10) (nI (0 + 1 + sb_dg m0 + 1 + sb_dg m1)) := ⟨_, rfl⟩
      have kn_878 : w_876 (8) = 0 := by rw [ew_876]; exact (pk_un (by omega)).trans kn_864
      have kn_879 : w_876 (10) = nI (0 + 1 + sb_dg m0 + 1 + sb_dg m1) := by rw [ew_876]; exact pk_us
      have hW_880 : Wd G (setRow (sbB X w_877) 11 w_876) H_870 := Wd.cast (by subst ew_876 ew_877; exact hy_875.trans sb_out) hW_872
      refine lv_pop hx hb dX7_renderFurnace_63 rfl ?_
      refine lv_iinc (v := 2) (lv' := [(3, .int 2), (4, .int (nI m1)), (2, .ref (ad G (65 * 0 + (11 + 3 * f_15)))), (0, .ref (ad G 715)), (1, .int (nI f_15))]) hx hb dX7_renderFurnace_64 hl_600 (k := 1) rfl (by decide) (by decide) rfl (fun ls_881 hl_882 => ?_)
      refine lv_goto (tgt := 25) hx hb dX7_renderFurnace_67 (by decide) ?_
      refine lv_iload_n hx hb dX7_renderFurnace_25 rfl (lv_at hl_882 0 rfl) ?_
      refine lv_iconst (v := 4) hx hb dX7_renderFurnace_26 (by decide) ?_
      refine lv_icmp_ge (tgt := 70) hx hb dX7_renderFurnace_27 (by decide) (fun h9 => absurd h9 (by decide)) (fun _ => ?_)
      refine lv_aload_n hx hb dX7_renderFurnace_30 rfl (lv_at hl_882 2 rfl) ?_
      refine g_contentN C hW_880 (ves_fur (G := G) h0_11 hf_15) (hwc hwX6) nw_1 dX7_renderFurnace_31 ?_
      refine g_massesN C hW_880 (ves_fur (G := G) h0_11 hf_15).mix (hwc hwX3) nw_2 dX7_renderFurnace_34 ?_
      refine lv_iload_n hx hb dX7_renderFurnace_37 rfl (lv_at hl_882 0 rfl) ?_
      refine g_mld C hW_880 (ves_fur (G := G) h0_11 hf_15).mix 2 (by decide) (vlit (by decide)) dX7_renderFurnace_38 ?_
      refine g_top (y := X.1 0 (9 + 6 * f_15 + 2)) (congrFun (rd_in (by decide) rfl) _) ?_
      refine g_top (y := nI m2) em2 ?_
      refine lv_istore (lv' := [(4, .int (nI m2)), (3, .int 2), (2, .ref (ad G (65 * 0 + (11 + 3 * f_15)))), (0, .ref (ad G 715)), (1, .int (nI f_15))]) hx hb dX7_renderFurnace_39 hl_882 (by decide) rfl (fun ls_883 hl_884 => ?_)
      refine lv_iload hx hb dX7_renderFurnace_41 (lv_at hl_884 0 rfl) ?_
      refine lv_if_le (tgt := 64) hx hb dX7_renderFurnace_43 (by decide) (fun b_885 => ?_) (fun b_885 => ?_)
      · have fb_885 : m2 ≤ 0 := (nI_leI (a := m2) (b := 0) (by omega) (by omega)).mp b_885
        refine lv_iinc (v := 3) (lv' := [(3, .int 3), (4, .int (nI m2)), (2, .ref (ad G (65 * 0 + (11 + 3 * f_15)))), (0, .ref (ad G 715)), (1, .int (nI f_15))]) hx hb dX7_renderFurnace_64 hl_884 (k := 1) rfl (by decide) (by decide) rfl (fun ls_886 hl_887 => ?_)
        refine lv_goto (tgt := 25) hx hb dX7_renderFurnace_67 (by decide) ?_
        refine lv_iload_n hx hb dX7_renderFurnace_25 rfl (lv_at hl_887 0 rfl) ?_
        refine lv_iconst (v := 4) hx hb dX7_renderFurnace_26 (by decide) ?_
        refine lv_icmp_ge (tgt := 70) hx hb dX7_renderFurnace_27 (by decide) (fun h9 => absurd h9 (by decide)) (fun _ => ?_)
        refine lv_aload_n hx hb dX7_renderFurnace_30 rfl (lv_at hl_887 2 rfl) ?_
        refine g_contentN C hW_880 (ves_fur (G := G) h0_11 hf_15) (hwc hwX6) nw_1 dX7_renderFurnace_31 ?_
        refine g_massesN C hW_880 (ves_fur (G := G) h0_11 hf_15).mix (hwc hwX3) nw_2 dX7_renderFurnace_34 ?_
        refine lv_iload_n hx hb dX7_renderFurnace_37 rfl (lv_at hl_887 0 rfl) ?_
        refine g_mld C hW_880 (ves_fur (G := G) h0_11 hf_15).mix 3 (by decide) (vlit (by decide)) dX7_renderFurnace_38 ?_
        refine g_top (y := X.1 0 (9 + 6 * f_15 + 3)) (congrFun (rd_in (by decide) rfl) _) ?_
        refine g_top (y := nI m3) em3 ?_
        refine lv_istore (lv' := [(4, .int (nI m3)), (3, .int 3), (2, .ref (ad G (65 * 0 + (11 + 3 * f_15)))), (0, .ref (ad G 715)), (1, .int (nI f_15))]) hx hb dX7_renderFurnace_39 hl_887 (by decide) rfl (fun ls_888 hl_889 => ?_)
        refine lv_iload hx hb dX7_renderFurnace_41 (lv_at hl_889 0 rfl) ?_
        refine lv_if_le (tgt := 64) hx hb dX7_renderFurnace_43 (by decide) (fun b_890 => ?_) (fun b_890 => ?_)
        · have fb_890 : m3 ≤ 0 := (nI_leI (a := m3) (b := 0) (by omega) (by omega)).mp b_890
          refine lv_iinc (v := 4) (lv' := [(3, .int 4), (4, .int (nI m3)), (2, .ref (ad G (65 * 0 + (11 + 3 * f_15)))), (0, .ref (ad G 715)), (1, .int (nI f_15))]) hx hb dX7_renderFurnace_64 hl_889 (k := 1) rfl (by decide) (by decide) rfl (fun ls_891 hl_892 => ?_)
          refine lv_goto (tgt := 25) hx hb dX7_renderFurnace_67 (by decide) ?_
          refine lv_iload_n hx hb dX7_renderFurnace_25 rfl (lv_at hl_892 0 rfl) ?_
          refine lv_iconst (v := 4) hx hb dX7_renderFurnace_26 (by decide) ?_
          refine lv_icmp_ge (tgt := 70) hx hb dX7_renderFurnace_27 (by decide) (fun _ => ?_) (fun h9 => absurd h9 (by decide))
          refine lv_aload_n hx hb dX7_renderFurnace_70 rfl (lv_at hl_892 3 rfl) ?_
          refine gF_output C hW_880 (hwc hwX7) (mc qw_294) dX7_renderFurnace_71 ?_
          refine lv_bipush (v := 64) hx hb dX7_renderFurnace_74 (by decide) ?_
          refine g_callr (va_runV (As := [.int 64]) (rest := []) C.1 (cJ4_append_cf468_ok l G (setRow (sbB X w_877) 11 w_876) cp hcp hcap ((congrFun rd_out _).trans kn_878) (0 + 1 + sb_dg m0 + 1 + sb_dg m1) ((congrFun rd_out _).trans kn_879) (by omega) 64 (by decide)) (cwV 1 C.1.2.2.2.2 (gV qw_745 qw_746 qw_747 qw_78 qw_748) rfl rfl rfl (by decide +kernel) ⟨Nat.le_of_ble_eq_true rfl, Nat.le_of_ble_eq_true rfl⟩) (g_rSB C hW_880 hS_873 [.int 64]) rfl rfl hl_892.1 rfl (lv_room (Nat.le_of_ble_eq_true rfl)) dX7_renderFurnace_76 ⟨by decide, by decide⟩) hS_873 (fun r_895 Y_894 H_896 locs_897 hW_898 hS_899 h_893 => ?_)
          obtain ⟨hr_900, hy_901⟩ := h_893
          dsimp only at hr_900 hy_901
          subst hr_900
          obtain ⟨w_903, ew_903⟩ : ∃ Z9, Z9 = upd w_877 (0 + 1 + sb_dg m0 + 1 + sb_dg m1) (nI 64) := ⟨_, rfl⟩
          obtain ⟨w_902, ew_902⟩ : ∃ Z9, Z9 = upd w_876 (10) (nI (0 + 1 + sb_dg m0 + 1 + sb_dg m1 + 1)) := ⟨_, rfl⟩
          have kn_904 : w_902 (8) = 0 := by rw [ew_902]; exact (pk_un (by omega)).trans kn_878
          have kn_905 : w_902 (10) = nI (0 + 1 + sb_dg m0 + 1 + sb_dg m1 + 1) := by rw [ew_902]; exact pk_us
          have hW_906 : Wd G (setRow (sbB X w_903) 11 w_902) H_896 := Wd.cast (by subst ew_902 ew_903; exact hy_901.trans sb_out) hW_898
          refine lv_aload_n hx hb dX7_renderFurnace_79 rfl (lv_at hl_892 2 rfl) ?_
          refine g_tempN C hW_906 (ves_fur (G := G) h0_11 hf_15) (hwc hwX6) nw_3 dX7_renderFurnace_80 ?_
          refine g_top (y := X.1 0 (9 + 6 * f_15 + 4)) (congrFun (rd_in (by decide) rfl) _) ?_
          refine g_top (y := nI tt) em4 ?_
          refine g_callr (va_runV (As := [.int (nI tt)]) (rest := []) C.1 (cJ4_append_bf812_ok l G (setRow (sbB X w_903) 11 w_902) cp hcp hcap ((congrFun rd_out _).trans kn_904) (0 + 1 + sb_dg m0 + 1 + sb_dg m1 + 1) ((congrFun rd_out _).trans kn_905) tt (show tt < 10000 by omega) (show 0 + 1 + sb_dg m0 + 1 + sb_dg m1 + 1 + sb_dg tt ≤ cp by omega)) (cwV 1 C.1.2.2.2.2 (gV qw_1319 qw_525 qw_526 qw_78 qw_527) rfl rfl rfl (by decide +kernel) ⟨Nat.le_of_ble_eq_true rfl, Nat.le_of_ble_eq_true rfl⟩) (g_rSB C hW_906 hS_899 [.int (nI tt)]) rfl rfl hl_892.1 rfl (lv_room (Nat.le_of_ble_eq_true rfl)) dX7_renderFurnace_83 ⟨by decide, by decide⟩) hS_899 (fun r_909 Y_908 H_910 locs_911 hW_912 hS_913 h_907 => ?_)
          obtain ⟨hr_914, hy_915⟩ := h_907
          dsimp only at hr_914 hy_915
          subst hr_914
          obtain ⟨w_917, ew_917⟩ : ∃ Z9, Z9 = decR w_903 (0 + 1 + sb_dg m0 + 1 + sb_dg m1 + 1) tt := ⟨_, rfl⟩
          obtain ⟨w_916, ew_916⟩ : ∃ Z9, Z9 = upd w_902 (10) (nI (0 + 1 + sb_dg m0 + 1 + sb_dg m1 + 1 + sb_dg tt)) := ⟨_, rfl⟩
          have kn_918 : w_916 (8) = 0 := by rw [ew_916]; exact (pk_un (by omega)).trans kn_904
          have kn_919 : w_916 (10) = nI (0 + 1 + sb_dg m0 + 1 + sb_dg m1 + 1 + sb_dg tt) := by rw [ew_916]; exact pk_us
          have hW_920 : Wd G (setRow (sbB X w_917) 11 w_916) H_910 := Wd.cast (by subst ew_916 ew_917; exact hy_915.trans sb_out) hW_912
          refine lv_pop hx hb dX7_renderFurnace_86 rfl ?_
          refine lv_aload_n hx hb dX7_renderFurnace_87 rfl (lv_at hl_892 3 rfl) ?_
          refine gF_output C hW_920 (hwc hwX7) (mc qw_294) dX7_renderFurnace_88 ?_
          refine g_calli (va_runV (As := []) (rest := []) C.1 (cJ4_length_8abf5_ok l G (setRow (sbB X w_917) 11 w_916) (0 + 1 + sb_dg m0 + 1 + sb_dg m1 + 1 + sb_dg tt) ((congrFun rd_out _).trans kn_919)) (cwV 0 C.1.2.2.2.2 (gV qw_767 qw_571 qw_1956 qw_78 qw_572) rfl rfl rfl (by decide +kernel) ⟨Nat.le_of_ble_eq_true rfl, Nat.le_of_ble_eq_true rfl⟩) (g_rSB C hW_920 hS_913 []) rfl rfl hl_892.1 rfl (lv_room (Nat.le_of_ble_eq_true rfl)) dX7_renderFurnace_91 ⟨by decide, by decide⟩) hS_913 (fun r_923 Y_922 H_924 locs_925 hW_926 hS_927 h_921 => ?_)
          obtain ⟨h_921, hy_928⟩ := h_921
          replace hy_928 := hy_928.symm
          subst hy_928
          subst h_921
          refine W.widen (k := 7) (n := 42) (by decide) (by decide) ?_
          refine vx_ret ?_
          exact g_iret C hr hlk hW_926 hS_927 dX7_renderFurnace_94 (by have e9 : rfS (X.1 0) (9 + 6 * (nI f_15).toNatClampNeg) X.2.2.2.1 = (0 + 1 + sb_dg m0 + 1 + sb_dg m1 + 1 + sb_dg tt, w_917) := (by subst ew_916; subst ew_917; subst ew_902; subst ew_903; subst ew_876; subst ew_877; subst ew_862; subst ew_863; subst ew_592; subst ew_593; subst ew_578; subst ew_579; subst ew_25; simp only [rfS, rfM, ltN, clf (show f_15 < 2 ^ 31 by omega), em0, em1, em2, em3, em4, clf (show m0 < 2 ^ 31 by omega), clf (show m1 < 2 ^ 31 by omega), clf (show m2 < 2 ^ 31 by omega), clf (show m3 < 2 ^ 31 by omega), clf (show tt < 2 ^ 31 by omega), b_33, b_601, b_885, b_890, if_true, if_false]); subst ew_916; subst ew_917; subst ew_902; subst ew_903; subst ew_876; subst ew_877; subst ew_862; subst ew_863; subst ew_592; subst ew_593; subst ew_578; subst ew_579; subst ew_25; exact ⟨⟨b_14, by rw [e9]⟩, X.2.1, X.2.2.1, _, by rw [hcap, e9]; exact ⟨hcp.1, hcp.2, by dsimp only; omega⟩, fun j _ => rfl, (BOk_rfS hby (by rw [clf (show f_15 < 2 ^ 31 by omega)]; exact mass_small (hmass f_15 hf_15))), by rw [e9]; simp only [slR_eq, uu10]⟩)
        · have fb_890 : ¬ m3 ≤ 0 := fun q9 => b_890 ((nI_leI (a := m3) (b := 0) (by omega) (by omega)).mpr q9)
          refine lv_aload_n hx hb dX7_renderFurnace_46 rfl (lv_at hl_889 3 rfl) ?_
          refine gF_output C hW_880 (hwc hwX7) (mc qw_294) dX7_renderFurnace_47 ?_
          refine g_ltS C hS_873 (mc qw_831) dX7_renderFurnace_50 ?_
          refine lv_iload_n hx hb dX7_renderFurnace_53 rfl (lv_at hl_889 1 rfl) ?_
          refine g_lt (v := 111) C hS_873 (vlit (by decide)) rfl dX7_renderFurnace_54 ?_
          refine g_callr (va_runV (As := [.int 111]) (rest := []) C.1 (cJ4_append_cf468_ok l G (setRow (sbB X w_877) 11 w_876) cp hcp hcap ((congrFun rd_out _).trans kn_878) (0 + 1 + sb_dg m0 + 1 + sb_dg m1) ((congrFun rd_out _).trans kn_879) (by omega) 111 (by decide)) (cwV 1 C.1.2.2.2.2 (gV qw_745 qw_746 qw_747 qw_78 qw_748) rfl rfl rfl (by decide +kernel) ⟨Nat.le_of_ble_eq_true rfl, Nat.le_of_ble_eq_true rfl⟩) (g_rSB C hW_880 hS_873 [.int 111]) rfl rfl hl_889.1 rfl (lv_room (Nat.le_of_ble_eq_true rfl)) dX7_renderFurnace_55 ⟨by decide, by decide⟩) hS_873 (fun r_931 Y_930 H_932 locs_933 hW_934 hS_935 h_929 => ?_)
          obtain ⟨hr_936, hy_937⟩ := h_929
          dsimp only at hr_936 hy_937
          subst hr_936
          obtain ⟨w_939, ew_939⟩ : ∃ Z9, Z9 = upd w_877 (0 + 1 + sb_dg m0 + 1 + sb_dg m1) (nI 111) := ⟨_, rfl⟩
          obtain ⟨w_938, ew_938⟩ : ∃ Z9, Z9 = upd w_876 (10) (nI (0 + 1 + sb_dg m0 + 1 + sb_dg m1 + 1)) := ⟨_, rfl⟩
          have kn_940 : w_938 (8) = 0 := by rw [ew_938]; exact (pk_un (by omega)).trans kn_878
          have kn_941 : w_938 (10) = nI (0 + 1 + sb_dg m0 + 1 + sb_dg m1 + 1) := by rw [ew_938]; exact pk_us
          have hW_942 : Wd G (setRow (sbB X w_939) 11 w_938) H_932 := Wd.cast (by subst ew_938 ew_939; exact hy_937.trans sb_out) hW_934
          refine lv_iload hx hb dX7_renderFurnace_58 (lv_at hl_889 0 rfl) ?_
          refine g_callr (va_runV (As := [.int (nI m3)]) (rest := []) C.1 (cJ4_append_bf812_ok l G (setRow (sbB X w_939) 11 w_938) cp hcp hcap ((congrFun rd_out _).trans kn_940) (0 + 1 + sb_dg m0 + 1 + sb_dg m1 + 1) ((congrFun rd_out _).trans kn_941) m3 (show m3 < 10000 by omega) (show 0 + 1 + sb_dg m0 + 1 + sb_dg m1 + 1 + sb_dg m3 ≤ cp by omega)) (cwV 1 C.1.2.2.2.2 (gV qw_1319 qw_525 qw_526 qw_78 qw_527) rfl rfl rfl (by decide +kernel) ⟨Nat.le_of_ble_eq_true rfl, Nat.le_of_ble_eq_true rfl⟩) (g_rSB C hW_942 hS_935 [.int (nI m3)]) rfl rfl hl_889.1 rfl (lv_room (Nat.le_of_ble_eq_true rfl)) dX7_renderFurnace_60 ⟨by decide, by decide⟩) hS_935 (fun r_945 Y_944 H_946 locs_947 hW_948 hS_949 h_943 => ?_)
          obtain ⟨hr_950, hy_951⟩ := h_943
          dsimp only at hr_950 hy_951
          subst hr_950
          obtain ⟨w_953, ew_953⟩ : ∃ Z9, Z9 = decR w_939 (0 + 1 + sb_dg m0 + 1 + sb_dg m1 + 1) m3 := ⟨_, rfl⟩
          obtain ⟨w_952, ew_952⟩ : ∃ Z9, Z9 = upd w_938 (10) (nI (0 + 1 + sb_dg m0 + 1 + sb_dg m1 + 1 + sb_dg m3)) := ⟨_, rfl⟩
          have kn_954 : w_952 (8) = 0 := by rw [ew_952]; exact (pk_un (by omega)).trans kn_940
          have kn_955 : w_952 (10) = nI (0 + 1 + sb_dg m0 + 1 + sb_dg m1 + 1 + sb_dg m3) := by rw [ew_952]; exact pk_us
          have hW_956 : Wd G (setRow (sbB X w_953) 11 w_952) H_946 := Wd.cast (by subst ew_952 ew_953; exact hy_951.trans sb_out) hW_948
          refine lv_pop hx hb dX7_renderFurnace_63 rfl ?_
          refine lv_iinc (v := 4) (lv' := [(3, .int 4), (4, .int (nI m3)), (2, .ref (ad G (65 * 0 + (11 + 3 * f_15)))), (0, .ref (ad G 715)), (1, .int (nI f_15))]) hx hb dX7_renderFurnace_64 hl_889 (k := 1) rfl (by decide) (by decide) rfl (fun ls_957 hl_958 => ?_)
          refine lv_goto (tgt := 25) hx hb dX7_renderFurnace_67 (by decide) ?_
          refine lv_iload_n hx hb dX7_renderFurnace_25 rfl (lv_at hl_958 0 rfl) ?_
          refine lv_iconst (v := 4) hx hb dX7_renderFurnace_26 (by decide) ?_
          refine lv_icmp_ge (tgt := 70) hx hb dX7_renderFurnace_27 (by decide) (fun _ => ?_) (fun h9 => absurd h9 (by decide))
          refine lv_aload_n hx hb dX7_renderFurnace_70 rfl (lv_at hl_958 3 rfl) ?_
          refine gF_output C hW_956 (hwc hwX7) (mc qw_294) dX7_renderFurnace_71 ?_
          refine lv_bipush (v := 64) hx hb dX7_renderFurnace_74 (by decide) ?_
          refine g_callr (va_runV (As := [.int 64]) (rest := []) C.1 (cJ4_append_cf468_ok l G (setRow (sbB X w_953) 11 w_952) cp hcp hcap ((congrFun rd_out _).trans kn_954) (0 + 1 + sb_dg m0 + 1 + sb_dg m1 + 1 + sb_dg m3) ((congrFun rd_out _).trans kn_955) (by omega) 64 (by decide)) (cwV 1 C.1.2.2.2.2 (gV qw_745 qw_746 qw_747 qw_78 qw_748) rfl rfl rfl (by decide +kernel) ⟨Nat.le_of_ble_eq_true rfl, Nat.le_of_ble_eq_true rfl⟩) (g_rSB C hW_956 hS_949 [.int 64]) rfl rfl hl_958.1 rfl (lv_room (Nat.le_of_ble_eq_true rfl)) dX7_renderFurnace_76 ⟨by decide, by decide⟩) hS_949 (fun r_961 Y_960 H_962 locs_963 hW_964 hS_965 h_959 => ?_)
          obtain ⟨hr_966, hy_967⟩ := h_959
          dsimp only at hr_966 hy_967
          subst hr_966
          obtain ⟨w_969, ew_969⟩ : ∃ Z9, Z9 = upd w_953 (0 + 1 + sb_dg m0 + 1 + sb_dg m1 + 1 + sb_dg m3) (nI 64) := ⟨_, rfl⟩
          obtain ⟨w_968, ew_968⟩ : ∃ Z9, Z9 = upd w_952 (10) (nI (0 + 1 + sb_dg m0 + 1 + sb_dg m1 + 1 + sb_dg m3 + 1)) := ⟨_, rfl⟩
          have kn_970 : w_968 (8) = 0 := by rw [ew_968]; exact (pk_un (by omega)).trans kn_954
          have kn_971 : w_968 (10) = nI (0 + 1 + sb_dg m0 + 1 + sb_dg m1 + 1 + sb_dg m3 + 1) := by rw [ew_968]; exact pk_us
          have hW_972 : Wd G (setRow (sbB X w_969) 11 w_968) H_962 := Wd.cast (by subst ew_968 ew_969; exact hy_967.trans sb_out) hW_964
          refine lv_aload_n hx hb dX7_renderFurnace_79 rfl (lv_at hl_958 2 rfl) ?_
          refine g_tempN C hW_972 (ves_fur (G := G) h0_11 hf_15) (hwc hwX6) nw_3 dX7_renderFurnace_80 ?_
          refine g_top (y := X.1 0 (9 + 6 * f_15 + 4)) (congrFun (rd_in (by decide) rfl) _) ?_
          refine g_top (y := nI tt) em4 ?_
          refine g_callr (va_runV (As := [.int (nI tt)]) (rest := []) C.1 (cJ4_append_bf812_ok l G (setRow (sbB X w_969) 11 w_968) cp hcp hcap ((congrFun rd_out _).trans kn_970) (0 + 1 + sb_dg m0 + 1 + sb_dg m1 + 1 + sb_dg m3 + 1) ((congrFun rd_out _).trans kn_971) tt (show tt < 10000 by omega) (show 0 + 1 + sb_dg m0 + 1 + sb_dg m1 + 1 + sb_dg m3 + 1 + sb_dg tt ≤ cp by omega)) (cwV 1 C.1.2.2.2.2 (gV qw_1319 qw_525 qw_526 qw_78 qw_527) rfl rfl rfl (by decide +kernel) ⟨Nat.le_of_ble_eq_true rfl, Nat.le_of_ble_eq_true rfl⟩) (g_rSB C hW_972 hS_965 [.int (nI tt)]) rfl rfl hl_958.1 rfl (lv_room (Nat.le_of_ble_eq_true rfl)) dX7_renderFurnace_83 ⟨by decide, by decide⟩) hS_965 (fun r_975 Y_974 H_976 locs_977 hW_978 hS_979 h_973 => ?_)
          obtain ⟨hr_980, hy_981⟩ := h_973
          dsimp only at hr_980 hy_981
          subst hr_980
          obtain ⟨w_983, ew_983⟩ : ∃ Z9, Z9 = decR w_969 (0 + 1 + sb_dg m0 + 1 + sb_dg m1 + 1 + sb_dg m3 + 1) tt := ⟨_, rfl⟩
          obtain ⟨w_982, ew_982⟩ : ∃ Z9, Z9 = upd w_968 (10) (nI (0 + 1 + sb_dg m0 + 1 + sb_dg m1 + 1 + sb_dg m3 + 1 + sb_dg tt)) := ⟨_, rfl⟩
          have kn_984 : w_982 (8) = 0 := by rw [ew_982]; exact (pk_un (by omega)).trans kn_970
          have kn_985 : w_982 (10) = nI (0 + 1 + sb_dg m0 + 1 + sb_dg m1 + 1 + sb_dg m3 + 1 + sb_dg tt) := by rw [ew_982]; exact pk_us
          have hW_986 : Wd G (setRow (sbB X w_983) 11 w_982) H_976 := Wd.cast (by subst ew_982 ew_983; exact hy_981.trans sb_out) hW_978
          refine lv_pop hx hb dX7_renderFurnace_86 rfl ?_
          refine lv_aload_n hx hb dX7_renderFurnace_87 rfl (lv_at hl_958 3 rfl) ?_
          refine gF_output C hW_986 (hwc hwX7) (mc qw_294) dX7_renderFurnace_88 ?_
          refine g_calli (va_runV (As := []) (rest := []) C.1 (cJ4_length_8abf5_ok l G (setRow (sbB X w_983) 11 w_982) (0 + 1 + sb_dg m0 + 1 + sb_dg m1 + 1 + sb_dg m3 + 1 + sb_dg tt) ((congrFun rd_out _).trans kn_985)) (cwV 0 C.1.2.2.2.2 (gV qw_767 qw_571 qw_1956 qw_78 qw_572) rfl rfl rfl (by decide +kernel) ⟨Nat.le_of_ble_eq_true rfl, Nat.le_of_ble_eq_true rfl⟩) (g_rSB C hW_986 hS_979 []) rfl rfl hl_958.1 rfl (lv_room (Nat.le_of_ble_eq_true rfl)) dX7_renderFurnace_91 ⟨by decide, by decide⟩) hS_979 (fun r_989 Y_988 H_990 locs_991 hW_992 hS_993 h_987 => ?_)
          obtain ⟨h_987, hy_994⟩ := h_987
          replace hy_994 := hy_994.symm
          subst hy_994
          subst h_987
          refine W.widen (k := 7) (n := 42) (by decide) (by decide) ?_
          refine vx_ret ?_
          exact g_iret C hr hlk hW_992 hS_993 dX7_renderFurnace_94 (by have e9 : rfS (X.1 0) (9 + 6 * (nI f_15).toNatClampNeg) X.2.2.2.1 = (0 + 1 + sb_dg m0 + 1 + sb_dg m1 + 1 + sb_dg m3 + 1 + sb_dg tt, w_983) := (by subst ew_982; subst ew_983; subst ew_968; subst ew_969; subst ew_952; subst ew_953; subst ew_938; subst ew_939; subst ew_876; subst ew_877; subst ew_862; subst ew_863; subst ew_592; subst ew_593; subst ew_578; subst ew_579; subst ew_25; simp only [rfS, rfM, ltN, clf (show f_15 < 2 ^ 31 by omega), em0, em1, em2, em3, em4, clf (show m0 < 2 ^ 31 by omega), clf (show m1 < 2 ^ 31 by omega), clf (show m2 < 2 ^ 31 by omega), clf (show m3 < 2 ^ 31 by omega), clf (show tt < 2 ^ 31 by omega), b_33, b_601, b_885, b_890, if_true, if_false]); subst ew_982; subst ew_983; subst ew_968; subst ew_969; subst ew_952; subst ew_953; subst ew_938; subst ew_939; subst ew_876; subst ew_877; subst ew_862; subst ew_863; subst ew_592; subst ew_593; subst ew_578; subst ew_579; subst ew_25; exact ⟨⟨b_14, by rw [e9]⟩, X.2.1, X.2.2.1, _, by rw [hcap, e9]; exact ⟨hcp.1, hcp.2, by dsimp only; omega⟩, fun j _ => rfl, (BOk_rfS hby (by rw [clf (show f_15 < 2 ^ 31 by omega)]; exact mass_small (hmass f_15 hf_15))), by rw [e9]; simp only [slR_eq, uu10]⟩)
      · have fb_885 : ¬ m2 ≤ 0 := fun q9 => b_885 ((nI_leI (a := m2) (b := 0) (by omega) (by omega)).mpr q9)
        refine lv_aload_n hx hb dX7_renderFurnace_46 rfl (lv_at hl_884 3 rfl) ?_
        refine gF_output C hW_880 (hwc hwX7) (mc qw_294) dX7_renderFurnace_47 ?_
        refine g_ltS C hS_873 (mc qw_831) dX7_renderFurnace_50 ?_
        refine lv_iload_n hx hb dX7_renderFurnace_53 rfl (lv_at hl_884 1 rfl) ?_
        refine g_lt (v := 108) C hS_873 (vlit (by decide)) rfl dX7_renderFurnace_54 ?_
        refine g_callr (va_runV (As := [.int 108]) (rest := []) C.1 (cJ4_append_cf468_ok l G (setRow (sbB X w_877) 11 w_876) cp hcp hcap ((congrFun rd_out _).trans kn_878) (0 + 1 + sb_dg m0 + 1 + sb_dg m1) ((congrFun rd_out _).trans kn_879) (by omega) 108 (by decide)) (cwV 1 C.1.2.2.2.2 (gV qw_745 qw_746 qw_747 qw_78 qw_748) rfl rfl rfl (by decide +kernel) ⟨Nat.le_of_ble_eq_true rfl, Nat.le_of_ble_eq_true rfl⟩) (g_rSB C hW_880 hS_873 [.int 108]) rfl rfl hl_884.1 rfl (lv_room (Nat.le_of_ble_eq_true rfl)) dX7_renderFurnace_55 ⟨by decide, by decide⟩) hS_873 (fun r_997 Y_996 H_998 locs_999 hW_1000 hS_1001 h_995 => ?_)
        obtain ⟨hr_1002, hy_1003⟩ := h_995
        dsimp only at hr_1002 hy_1003
        subst hr_1002
        obtain ⟨w_1005, ew_1005⟩ : ∃ Z9, Z9 = upd w_877 (0 + 1 + sb_dg m0 + 1 + sb_dg m1) (nI 108) := ⟨_, rfl⟩
        obtain ⟨w_1004, ew_1004⟩ : ∃ Z9, Z9 = upd w_876 (10) (nI (0 + 1 + sb_dg m0 + 1 + sb_dg m1 + 1)) := ⟨_, rfl⟩
        have kn_1006 : w_1004 (8) = 0 := by rw [ew_1004]; exact (pk_un (by omega)).trans kn_878
        have kn_1007 : w_1004 (10) = nI (0 + 1 + sb_dg m0 + 1 + sb_dg m1 + 1) := by rw [ew_1004]; exact pk_us
        have hW_1008 : Wd G (setRow (sbB X w_1005) 11 w_1004) H_998 := Wd.cast (by subst ew_1004 ew_1005; exact hy_1003.trans sb_out) hW_1000
        refine lv_iload hx hb dX7_renderFurnace_58 (lv_at hl_884 0 rfl) ?_
        refine g_callr (va_runV (As := [.int (nI m2)]) (rest := []) C.1 (cJ4_append_bf812_ok l G (setRow (sbB X w_1005) 11 w_1004) cp hcp hcap ((congrFun rd_out _).trans kn_1006) (0 + 1 + sb_dg m0 + 1 + sb_dg m1 + 1) ((congrFun rd_out _).trans kn_1007) m2 (show m2 < 10000 by omega) (show 0 + 1 + sb_dg m0 + 1 + sb_dg m1 + 1 + sb_dg m2 ≤ cp by omega)) (cwV 1 C.1.2.2.2.2 (gV qw_1319 qw_525 qw_526 qw_78 qw_527) rfl rfl rfl (by decide +kernel) ⟨Nat.le_of_ble_eq_true rfl, Nat.le_of_ble_eq_true rfl⟩) (g_rSB C hW_1008 hS_1001 [.int (nI m2)]) rfl rfl hl_884.1 rfl (lv_room (Nat.le_of_ble_eq_true rfl)) dX7_renderFurnace_60 ⟨by decide, by decide⟩) hS_1001 (fun r_1011 Y_1010 H_1012 locs_1013 hW_1014 hS_1015 h_1009 => ?_)
        obtain ⟨hr_1016, hy_1017⟩ := h_1009
        dsimp only at hr_1016 hy_1017
        subst hr_1016
        obtain ⟨w_1019, ew_1019⟩ : ∃ Z9, Z9 = decR w_1005 (0 + 1 + sb_dg m0 + 1 + sb_dg m1 + 1) m2 := ⟨_, rfl⟩
        obtain ⟨w_1018, ew_1018⟩ : ∃ Z9, Z9 = upd w_1004 (10) (nI (0 + 1 + sb_dg m0 + 1 + sb_dg m1 + 1 + sb_dg m2)) := ⟨_, rfl⟩
        have kn_1020 : w_1018 (8) = 0 := by rw [ew_1018]; exact (pk_un (by omega)).trans kn_1006
        have kn_1021 : w_1018 (10) = nI (0 + 1 + sb_dg m0 + 1 + sb_dg m1 + 1 + sb_dg m2) := by rw [ew_1018]; exact pk_us
        have hW_1022 : Wd G (setRow (sbB X w_1019) 11 w_1018) H_1012 := Wd.cast (by subst ew_1018 ew_1019; exact hy_1017.trans sb_out) hW_1014
        refine lv_pop hx hb dX7_renderFurnace_63 rfl ?_
        refine lv_iinc (v := 3) (lv' := [(3, .int 3), (4, .int (nI m2)), (2, .ref (ad G (65 * 0 + (11 + 3 * f_15)))), (0, .ref (ad G 715)), (1, .int (nI f_15))]) hx hb dX7_renderFurnace_64 hl_884 (k := 1) rfl (by decide) (by decide) rfl (fun ls_1023 hl_1024 => ?_)
        refine lv_goto (tgt := 25) hx hb dX7_renderFurnace_67 (by decide) ?_
        refine lv_iload_n hx hb dX7_renderFurnace_25 rfl (lv_at hl_1024 0 rfl) ?_
        refine lv_iconst (v := 4) hx hb dX7_renderFurnace_26 (by decide) ?_
        refine lv_icmp_ge (tgt := 70) hx hb dX7_renderFurnace_27 (by decide) (fun h9 => absurd h9 (by decide)) (fun _ => ?_)
        refine lv_aload_n hx hb dX7_renderFurnace_30 rfl (lv_at hl_1024 2 rfl) ?_
        refine g_contentN C hW_1022 (ves_fur (G := G) h0_11 hf_15) (hwc hwX6) nw_1 dX7_renderFurnace_31 ?_
        refine g_massesN C hW_1022 (ves_fur (G := G) h0_11 hf_15).mix (hwc hwX3) nw_2 dX7_renderFurnace_34 ?_
        refine lv_iload_n hx hb dX7_renderFurnace_37 rfl (lv_at hl_1024 0 rfl) ?_
        refine g_mld C hW_1022 (ves_fur (G := G) h0_11 hf_15).mix 3 (by decide) (vlit (by decide)) dX7_renderFurnace_38 ?_
        refine g_top (y := X.1 0 (9 + 6 * f_15 + 3)) (congrFun (rd_in (by decide) rfl) _) ?_
        refine g_top (y := nI m3) em3 ?_
        refine lv_istore (lv' := [(4, .int (nI m3)), (3, .int 3), (2, .ref (ad G (65 * 0 + (11 + 3 * f_15)))), (0, .ref (ad G 715)), (1, .int (nI f_15))]) hx hb dX7_renderFurnace_39 hl_1024 (by decide) rfl (fun ls_1025 hl_1026 => ?_)
        refine lv_iload hx hb dX7_renderFurnace_41 (lv_at hl_1026 0 rfl) ?_
        refine lv_if_le (tgt := 64) hx hb dX7_renderFurnace_43 (by decide) (fun b_1027 => ?_) (fun b_1027 => ?_)
        · have fb_1027 : m3 ≤ 0 := (nI_leI (a := m3) (b := 0) (by omega) (by omega)).mp b_1027
          refine lv_iinc (v := 4) (lv' := [(3, .int 4), (4, .int (nI m3)), (2, .ref (ad G (65 * 0 + (11 + 3 * f_15)))), (0, .ref (ad G 715)), (1, .int (nI f_15))]) hx hb dX7_renderFurnace_64 hl_1026 (k := 1) rfl (by decide) (by decide) rfl (fun ls_1028 hl_1029 => ?_)
          refine lv_goto (tgt := 25) hx hb dX7_renderFurnace_67 (by decide) ?_
          refine lv_iload_n hx hb dX7_renderFurnace_25 rfl (lv_at hl_1029 0 rfl) ?_
          refine lv_iconst (v := 4) hx hb dX7_renderFurnace_26 (by decide) ?_
          refine lv_icmp_ge (tgt := 70) hx hb dX7_renderFurnace_27 (by decide) (fun _ => ?_) (fun h9 => absurd h9 (by decide))
          refine lv_aload_n hx hb dX7_renderFurnace_70 rfl (lv_at hl_1029 3 rfl) ?_
          refine gF_output C hW_1022 (hwc hwX7) (mc qw_294) dX7_renderFurnace_71 ?_
          refine lv_bipush (v := 64) hx hb dX7_renderFurnace_74 (by decide) ?_
          refine g_callr (va_runV (As := [.int 64]) (rest := []) C.1 (cJ4_append_cf468_ok l G (setRow (sbB X w_1019) 11 w_1018) cp hcp hcap ((congrFun rd_out _).trans kn_1020) (0 + 1 + sb_dg m0 + 1 + sb_dg m1 + 1 + sb_dg m2) ((congrFun rd_out _).trans kn_1021) (by omega) 64 (by decide)) (cwV 1 C.1.2.2.2.2 (gV qw_745 qw_746 qw_747 qw_78 qw_748) rfl rfl rfl (by decide +kernel) ⟨Nat.le_of_ble_eq_true rfl, Nat.le_of_ble_eq_true rfl⟩) (g_rSB C hW_1022 hS_1015 [.int 64]) rfl rfl hl_1029.1 rfl (lv_room (Nat.le_of_ble_eq_true rfl)) dX7_renderFurnace_76 ⟨by decide, by decide⟩) hS_1015 (fun r_1032 Y_1031 H_1033 locs_1034 hW_1035 hS_1036 h_1030 => ?_)
          obtain ⟨hr_1037, hy_1038⟩ := h_1030
          dsimp only at hr_1037 hy_1038
          subst hr_1037
          obtain ⟨w_1040, ew_1040⟩ : ∃ Z9, Z9 = upd w_1019 (0 + 1 + sb_dg m0 + 1 + sb_dg m1 + 1 + sb_dg m2) (nI 64) := ⟨_, rfl⟩
          obtain ⟨w_1039, ew_1039⟩ : ∃ Z9, Z9 = upd w_1018 (10) (nI (0 + 1 + sb_dg m0 + 1 + sb_dg m1 + 1 + sb_dg m2 + 1)) := ⟨_, rfl⟩
          have kn_1041 : w_1039 (8) = 0 := by rw [ew_1039]; exact (pk_un (by omega)).trans kn_1020
          have kn_1042 : w_1039 (10) = nI (0 + 1 + sb_dg m0 + 1 + sb_dg m1 + 1 + sb_dg m2 + 1) := by rw [ew_1039]; exact pk_us
          have hW_1043 : Wd G (setRow (sbB X w_1040) 11 w_1039) H_1033 := Wd.cast (by subst ew_1039 ew_1040; exact hy_1038.trans sb_out) hW_1035
          refine lv_aload_n hx hb dX7_renderFurnace_79 rfl (lv_at hl_1029 2 rfl) ?_
          refine g_tempN C hW_1043 (ves_fur (G := G) h0_11 hf_15) (hwc hwX6) nw_3 dX7_renderFurnace_80 ?_
          refine g_top (y := X.1 0 (9 + 6 * f_15 + 4)) (congrFun (rd_in (by decide) rfl) _) ?_
          refine g_top (y := nI tt) em4 ?_
          refine g_callr (va_runV (As := [.int (nI tt)]) (rest := []) C.1 (cJ4_append_bf812_ok l G (setRow (sbB X w_1040) 11 w_1039) cp hcp hcap ((congrFun rd_out _).trans kn_1041) (0 + 1 + sb_dg m0 + 1 + sb_dg m1 + 1 + sb_dg m2 + 1) ((congrFun rd_out _).trans kn_1042) tt (show tt < 10000 by omega) (show 0 + 1 + sb_dg m0 + 1 + sb_dg m1 + 1 + sb_dg m2 + 1 + sb_dg tt ≤ cp by omega)) (cwV 1 C.1.2.2.2.2 (gV qw_1319 qw_525 qw_526 qw_78 qw_527) rfl rfl rfl (by decide +kernel) ⟨Nat.le_of_ble_eq_true rfl, Nat.le_of_ble_eq_true rfl⟩) (g_rSB C hW_1043 hS_1036 [.int (nI tt)]) rfl rfl hl_1029.1 rfl (lv_room (Nat.le_of_ble_eq_true rfl)) dX7_renderFurnace_83 ⟨by decide, by decide⟩) hS_1036 (fun r_1046 Y_1045 H_1047 locs_1048 hW_1049 hS_1050 h_1044 => ?_)
          obtain ⟨hr_1051, hy_1052⟩ := h_1044
          dsimp only at hr_1051 hy_1052
          subst hr_1051
          obtain ⟨w_1054, ew_1054⟩ : ∃ Z9, Z9 = decR w_1040 (0 + 1 + sb_dg m0 + 1 + sb_dg m1 + 1 + sb_dg m2 + 1) tt := ⟨_, rfl⟩
          obtain ⟨w_1053, ew_1053⟩ : ∃ Z9, Z9 = upd w_1039 (10) (nI (0 + 1 + sb_dg m0 + 1 + sb_dg m1 + 1 + sb_dg m2 + 1 + sb_dg tt)) := ⟨_, rfl⟩
          have kn_1055 : w_1053 (8) = 0 := by rw [ew_1053]; exact (pk_un (by omega)).trans kn_1041
          have kn_1056 : w_1053 (10) = nI (0 + 1 + sb_dg m0 + 1 + sb_dg m1 + 1 + sb_dg m2 + 1 + sb_dg tt) := by rw [ew_1053]; exact pk_us
          have hW_1057 : Wd G (setRow (sbB X w_1054) 11 w_1053) H_1047 := Wd.cast (by subst ew_1053 ew_1054; exact hy_1052.trans sb_out) hW_1049
          refine lv_pop hx hb dX7_renderFurnace_86 rfl ?_
          refine lv_aload_n hx hb dX7_renderFurnace_87 rfl (lv_at hl_1029 3 rfl) ?_
          refine gF_output C hW_1057 (hwc hwX7) (mc qw_294) dX7_renderFurnace_88 ?_
          refine g_calli (va_runV (As := []) (rest := []) C.1 (cJ4_length_8abf5_ok l G (setRow (sbB X w_1054) 11 w_1053) (0 + 1 + sb_dg m0 + 1 + sb_dg m1 + 1 + sb_dg m2 + 1 + sb_dg tt) ((congrFun rd_out _).trans kn_1056)) (cwV 0 C.1.2.2.2.2 (gV qw_767 qw_571 qw_1956 qw_78 qw_572) rfl rfl rfl (by decide +kernel) ⟨Nat.le_of_ble_eq_true rfl, Nat.le_of_ble_eq_true rfl⟩) (g_rSB C hW_1057 hS_1050 []) rfl rfl hl_1029.1 rfl (lv_room (Nat.le_of_ble_eq_true rfl)) dX7_renderFurnace_91 ⟨by decide, by decide⟩) hS_1050 (fun r_1060 Y_1059 H_1061 locs_1062 hW_1063 hS_1064 h_1058 => ?_)
          obtain ⟨h_1058, hy_1065⟩ := h_1058
          replace hy_1065 := hy_1065.symm
          subst hy_1065
          subst h_1058
          refine W.widen (k := 7) (n := 42) (by decide) (by decide) ?_
          refine vx_ret ?_
          exact g_iret C hr hlk hW_1063 hS_1064 dX7_renderFurnace_94 (by have e9 : rfS (X.1 0) (9 + 6 * (nI f_15).toNatClampNeg) X.2.2.2.1 = (0 + 1 + sb_dg m0 + 1 + sb_dg m1 + 1 + sb_dg m2 + 1 + sb_dg tt, w_1054) := (by subst ew_1053; subst ew_1054; subst ew_1039; subst ew_1040; subst ew_1018; subst ew_1019; subst ew_1004; subst ew_1005; subst ew_876; subst ew_877; subst ew_862; subst ew_863; subst ew_592; subst ew_593; subst ew_578; subst ew_579; subst ew_25; simp only [rfS, rfM, ltN, clf (show f_15 < 2 ^ 31 by omega), em0, em1, em2, em3, em4, clf (show m0 < 2 ^ 31 by omega), clf (show m1 < 2 ^ 31 by omega), clf (show m2 < 2 ^ 31 by omega), clf (show m3 < 2 ^ 31 by omega), clf (show tt < 2 ^ 31 by omega), b_33, b_601, b_885, b_1027, if_true, if_false]); subst ew_1053; subst ew_1054; subst ew_1039; subst ew_1040; subst ew_1018; subst ew_1019; subst ew_1004; subst ew_1005; subst ew_876; subst ew_877; subst ew_862; subst ew_863; subst ew_592; subst ew_593; subst ew_578; subst ew_579; subst ew_25; exact ⟨⟨b_14, by rw [e9]⟩, X.2.1, X.2.2.1, _, by rw [hcap, e9]; exact ⟨hcp.1, hcp.2, by dsimp only; omega⟩, fun j _ => rfl, (BOk_rfS hby (by rw [clf (show f_15 < 2 ^ 31 by omega)]; exact mass_small (hmass f_15 hf_15))), by rw [e9]; simp only [slR_eq, uu10]⟩)
        · have fb_1027 : ¬ m3 ≤ 0 := fun q9 => b_1027 ((nI_leI (a := m3) (b := 0) (by omega) (by omega)).mpr q9)
          refine lv_aload_n hx hb dX7_renderFurnace_46 rfl (lv_at hl_1026 3 rfl) ?_
          refine gF_output C hW_1022 (hwc hwX7) (mc qw_294) dX7_renderFurnace_47 ?_
          refine g_ltS C hS_1015 (mc qw_831) dX7_renderFurnace_50 ?_
          refine lv_iload_n hx hb dX7_renderFurnace_53 rfl (lv_at hl_1026 1 rfl) ?_
          refine g_lt (v := 111) C hS_1015 (vlit (by decide)) rfl dX7_renderFurnace_54 ?_
          refine g_callr (va_runV (As := [.int 111]) (rest := []) C.1 (cJ4_append_cf468_ok l G (setRow (sbB X w_1019) 11 w_1018) cp hcp hcap ((congrFun rd_out _).trans kn_1020) (0 + 1 + sb_dg m0 + 1 + sb_dg m1 + 1 + sb_dg m2) ((congrFun rd_out _).trans kn_1021) (by omega) 111 (by decide)) (cwV 1 C.1.2.2.2.2 (gV qw_745 qw_746 qw_747 qw_78 qw_748) rfl rfl rfl (by decide +kernel) ⟨Nat.le_of_ble_eq_true rfl, Nat.le_of_ble_eq_true rfl⟩) (g_rSB C hW_1022 hS_1015 [.int 111]) rfl rfl hl_1026.1 rfl (lv_room (Nat.le_of_ble_eq_true rfl)) dX7_renderFurnace_55 ⟨by decide, by decide⟩) hS_1015 (fun r_1068 Y_1067 H_1069 locs_1070 hW_1071 hS_1072 h_1066 => ?_)
          obtain ⟨hr_1073, hy_1074⟩ := h_1066
          dsimp only at hr_1073 hy_1074
          subst hr_1073
          obtain ⟨w_1076, ew_1076⟩ : ∃ Z9, Z9 = upd w_1019 (0 + 1 + sb_dg m0 + 1 + sb_dg m1 + 1 + sb_dg m2) (nI 111) := ⟨_, rfl⟩
          obtain ⟨w_1075, ew_1075⟩ : ∃ Z9, Z9 = upd w_1018 (10) (nI (0 + 1 + sb_dg m0 + 1 + sb_dg m1 + 1 + sb_dg m2 + 1)) := ⟨_, rfl⟩
          have kn_1077 : w_1075 (8) = 0 := by rw [ew_1075]; exact (pk_un (by omega)).trans kn_1020
          have kn_1078 : w_1075 (10) = nI (0 + 1 + sb_dg m0 + 1 + sb_dg m1 + 1 + sb_dg m2 + 1) := by rw [ew_1075]; exact pk_us
          have hW_1079 : Wd G (setRow (sbB X w_1076) 11 w_1075) H_1069 := Wd.cast (by subst ew_1075 ew_1076; exact hy_1074.trans sb_out) hW_1071
          refine lv_iload hx hb dX7_renderFurnace_58 (lv_at hl_1026 0 rfl) ?_
          refine g_callr (va_runV (As := [.int (nI m3)]) (rest := []) C.1 (cJ4_append_bf812_ok l G (setRow (sbB X w_1076) 11 w_1075) cp hcp hcap ((congrFun rd_out _).trans kn_1077) (0 + 1 + sb_dg m0 + 1 + sb_dg m1 + 1 + sb_dg m2 + 1) ((congrFun rd_out _).trans kn_1078) m3 (show m3 < 10000 by omega) (show 0 + 1 + sb_dg m0 + 1 + sb_dg m1 + 1 + sb_dg m2 + 1 + sb_dg m3 ≤ cp by omega)) (cwV 1 C.1.2.2.2.2 (gV qw_1319 qw_525 qw_526 qw_78 qw_527) rfl rfl rfl (by decide +kernel) ⟨Nat.le_of_ble_eq_true rfl, Nat.le_of_ble_eq_true rfl⟩) (g_rSB C hW_1079 hS_1072 [.int (nI m3)]) rfl rfl hl_1026.1 rfl (lv_room (Nat.le_of_ble_eq_true rfl)) dX7_renderFurnace_60 ⟨by decide, by decide⟩) hS_1072 (fun r_1082 Y_1081 H_1083 locs_1084 hW_1085 hS_1086 h_1080 => ?_)
          obtain ⟨hr_1087, hy_1088⟩ := h_1080
          dsimp only at hr_1087 hy_1088
          subst hr_1087
          obtain ⟨w_1090, ew_1090⟩ : ∃ Z9, Z9 = decR w_1076 (0 + 1 + sb_dg m0 + 1 + sb_dg m1 + 1 + sb_dg m2 + 1) m3 := ⟨_, rfl⟩
          obtain ⟨w_1089, ew_1089⟩ : ∃ Z9, Z9 = upd w_1075 (10) (nI (0 + 1 + sb_dg m0 + 1 + sb_dg m1 + 1 + sb_dg m2 + 1 + sb_dg m3)) := ⟨_, rfl⟩
          have kn_1091 : w_1089 (8) = 0 := by rw [ew_1089]; exact (pk_un (by omega)).trans kn_1077
          have kn_1092 : w_1089 (10) = nI (0 + 1 + sb_dg m0 + 1 + sb_dg m1 + 1 + sb_dg m2 + 1 + sb_dg m3) := by rw [ew_1089]; exact pk_us
          have hW_1093 : Wd G (setRow (sbB X w_1090) 11 w_1089) H_1083 := Wd.cast (by subst ew_1089 ew_1090; exact hy_1088.trans sb_out) hW_1085
          refine lv_pop hx hb dX7_renderFurnace_63 rfl ?_
          refine lv_iinc (v := 4) (lv' := [(3, .int 4), (4, .int (nI m3)), (2, .ref (ad G (65 * 0 + (11 + 3 * f_15)))), (0, .ref (ad G 715)), (1, .int (nI f_15))]) hx hb dX7_renderFurnace_64 hl_1026 (k := 1) rfl (by decide) (by decide) rfl (fun ls_1094 hl_1095 => ?_)
          refine lv_goto (tgt := 25) hx hb dX7_renderFurnace_67 (by decide) ?_
          refine lv_iload_n hx hb dX7_renderFurnace_25 rfl (lv_at hl_1095 0 rfl) ?_
          refine lv_iconst (v := 4) hx hb dX7_renderFurnace_26 (by decide) ?_
          refine lv_icmp_ge (tgt := 70) hx hb dX7_renderFurnace_27 (by decide) (fun _ => ?_) (fun h9 => absurd h9 (by decide))
          refine lv_aload_n hx hb dX7_renderFurnace_70 rfl (lv_at hl_1095 3 rfl) ?_
          refine gF_output C hW_1093 (hwc hwX7) (mc qw_294) dX7_renderFurnace_71 ?_
          refine lv_bipush (v := 64) hx hb dX7_renderFurnace_74 (by decide) ?_
          refine g_callr (va_runV (As := [.int 64]) (rest := []) C.1 (cJ4_append_cf468_ok l G (setRow (sbB X w_1090) 11 w_1089) cp hcp hcap ((congrFun rd_out _).trans kn_1091) (0 + 1 + sb_dg m0 + 1 + sb_dg m1 + 1 + sb_dg m2 + 1 + sb_dg m3) ((congrFun rd_out _).trans kn_1092) (by omega) 64 (by decide)) (cwV 1 C.1.2.2.2.2 (gV qw_745 qw_746 qw_747 qw_78 qw_748) rfl rfl rfl (by decide +kernel) ⟨Nat.le_of_ble_eq_true rfl, Nat.le_of_ble_eq_true rfl⟩) (g_rSB C hW_1093 hS_1086 [.int 64]) rfl rfl hl_1095.1 rfl (lv_room (Nat.le_of_ble_eq_true rfl)) dX7_renderFurnace_76 ⟨by decide, by decide⟩) hS_1086 (fun r_1098 Y_1097 H_1099 locs_1100 hW_1101 hS_1102 h_1096 => ?_)
          obtain ⟨hr_1103, hy_1104⟩ := h_1096
          dsimp only at hr_1103 hy_1104
          subst hr_1103
          obtain ⟨w_1106, ew_1106⟩ : ∃ Z9, Z9 = upd w_1090 (0 + 1 + sb_dg m0 + 1 + sb_dg m1 + 1 + sb_dg m2 + 1 + sb_dg m3) (nI 64) := ⟨_, rfl⟩
          obtain ⟨w_1105, ew_1105⟩ : ∃ Z9, Z9 = upd w_1089 (10) (nI (0 + 1 + sb_dg m0 + 1 + sb_dg m1 + 1 + sb_dg m2 + 1 + sb_dg m3 + 1)) := ⟨_, rfl⟩
          have kn_1107 : w_1105 (8) = 0 := by rw [ew_1105]; exact (pk_un (by omega)).trans kn_1091
          have kn_1108 : w_1105 (10) = nI (0 + 1 + sb_dg m0 + 1 + sb_dg m1 + 1 + sb_dg m2 + 1 + sb_dg m3 + 1) := by rw [ew_1105]; exact pk_us
          have hW_1109 : Wd G (setRow (sbB X w_1106) 11 w_1105) H_1099 := Wd.cast (by subst ew_1105 ew_1106; exact hy_1104.trans sb_out) hW_1101
          refine lv_aload_n hx hb dX7_renderFurnace_79 rfl (lv_at hl_1095 2 rfl) ?_
          refine g_tempN C hW_1109 (ves_fur (G := G) h0_11 hf_15) (hwc hwX6) nw_3 dX7_renderFurnace_80 ?_
          refine g_top (y := X.1 0 (9 + 6 * f_15 + 4)) (congrFun (rd_in (by decide) rfl) _) ?_
          refine g_top (y := nI tt) em4 ?_
          by_cases hg : 0 + 1 + sb_dg m0 + 1 + sb_dg m1 + 1 + sb_dg m2 + 1 + sb_dg m3 + 1 + sb_dg tt ≤ cp
          · refine g_callr (va_runV (As := [.int (nI tt)]) (rest := []) C.1 (cJ4_append_bf812_ok l G (setRow (sbB X w_1106) 11 w_1105) cp hcp hcap ((congrFun rd_out _).trans kn_1107) (0 + 1 + sb_dg m0 + 1 + sb_dg m1 + 1 + sb_dg m2 + 1 + sb_dg m3 + 1) ((congrFun rd_out _).trans kn_1108) tt (show tt < 10000 by omega) (show 0 + 1 + sb_dg m0 + 1 + sb_dg m1 + 1 + sb_dg m2 + 1 + sb_dg m3 + 1 + sb_dg tt ≤ cp by omega)) (cwV 1 C.1.2.2.2.2 (gV qw_1319 qw_525 qw_526 qw_78 qw_527) rfl rfl rfl (by decide +kernel) ⟨Nat.le_of_ble_eq_true rfl, Nat.le_of_ble_eq_true rfl⟩) (g_rSB C hW_1109 hS_1102 [.int (nI tt)]) rfl rfl hl_1095.1 rfl (lv_room (Nat.le_of_ble_eq_true rfl)) dX7_renderFurnace_83 ⟨by decide, by decide⟩) hS_1102 (fun r_1112 Y_1111 H_1113 locs_1114 hW_1115 hS_1116 h_1110 => ?_)
            obtain ⟨hr_1117, hy_1118⟩ := h_1110
            dsimp only at hr_1117 hy_1118
            subst hr_1117
            obtain ⟨w_1120, ew_1120⟩ : ∃ Z9, Z9 = decR w_1106 (0 + 1 + sb_dg m0 + 1 + sb_dg m1 + 1 + sb_dg m2 + 1 + sb_dg m3 + 1) tt := ⟨_, rfl⟩
            obtain ⟨w_1119, ew_1119⟩ : ∃ Z9, Z9 = upd w_1105 (10) (nI (0 + 1 + sb_dg m0 + 1 + sb_dg m1 + 1 + sb_dg m2 + 1 + sb_dg m3 + 1 + sb_dg tt)) := ⟨_, rfl⟩
            have kn_1121 : w_1119 (8) = 0 := by rw [ew_1119]; exact (pk_un (by omega)).trans kn_1107
            have kn_1122 : w_1119 (10) = nI (0 + 1 + sb_dg m0 + 1 + sb_dg m1 + 1 + sb_dg m2 + 1 + sb_dg m3 + 1 + sb_dg tt) := by rw [ew_1119]; exact pk_us
            have hW_1123 : Wd G (setRow (sbB X w_1120) 11 w_1119) H_1113 := Wd.cast (by subst ew_1119 ew_1120; exact hy_1118.trans sb_out) hW_1115
            refine lv_pop hx hb dX7_renderFurnace_86 rfl ?_
            refine lv_aload_n hx hb dX7_renderFurnace_87 rfl (lv_at hl_1095 3 rfl) ?_
            refine gF_output C hW_1123 (hwc hwX7) (mc qw_294) dX7_renderFurnace_88 ?_
            refine g_calli (va_runV (As := []) (rest := []) C.1 (cJ4_length_8abf5_ok l G (setRow (sbB X w_1120) 11 w_1119) (0 + 1 + sb_dg m0 + 1 + sb_dg m1 + 1 + sb_dg m2 + 1 + sb_dg m3 + 1 + sb_dg tt) ((congrFun rd_out _).trans kn_1122)) (cwV 0 C.1.2.2.2.2 (gV qw_767 qw_571 qw_1956 qw_78 qw_572) rfl rfl rfl (by decide +kernel) ⟨Nat.le_of_ble_eq_true rfl, Nat.le_of_ble_eq_true rfl⟩) (g_rSB C hW_1123 hS_1116 []) rfl rfl hl_1095.1 rfl (lv_room (Nat.le_of_ble_eq_true rfl)) dX7_renderFurnace_91 ⟨by decide, by decide⟩) hS_1116 (fun r_1126 Y_1125 H_1127 locs_1128 hW_1129 hS_1130 h_1124 => ?_)
            obtain ⟨h_1124, hy_1131⟩ := h_1124
            replace hy_1131 := hy_1131.symm
            subst hy_1131
            subst h_1124
            refine W.widen (k := 7) (n := 42) (by decide) (by decide) ?_
            refine vx_ret ?_
            exact g_iret C hr hlk hW_1129 hS_1130 dX7_renderFurnace_94 (by have e9 : rfS (X.1 0) (9 + 6 * (nI f_15).toNatClampNeg) X.2.2.2.1 = (0 + 1 + sb_dg m0 + 1 + sb_dg m1 + 1 + sb_dg m2 + 1 + sb_dg m3 + 1 + sb_dg tt, w_1120) := (by subst ew_1119; subst ew_1120; subst ew_1105; subst ew_1106; subst ew_1089; subst ew_1090; subst ew_1075; subst ew_1076; subst ew_1018; subst ew_1019; subst ew_1004; subst ew_1005; subst ew_876; subst ew_877; subst ew_862; subst ew_863; subst ew_592; subst ew_593; subst ew_578; subst ew_579; subst ew_25; simp only [rfS, rfM, ltN, clf (show f_15 < 2 ^ 31 by omega), em0, em1, em2, em3, em4, clf (show m0 < 2 ^ 31 by omega), clf (show m1 < 2 ^ 31 by omega), clf (show m2 < 2 ^ 31 by omega), clf (show m3 < 2 ^ 31 by omega), clf (show tt < 2 ^ 31 by omega), b_33, b_601, b_885, b_1027, if_true, if_false]); subst ew_1119; subst ew_1120; subst ew_1105; subst ew_1106; subst ew_1089; subst ew_1090; subst ew_1075; subst ew_1076; subst ew_1018; subst ew_1019; subst ew_1004; subst ew_1005; subst ew_876; subst ew_877; subst ew_862; subst ew_863; subst ew_592; subst ew_593; subst ew_578; subst ew_579; subst ew_25; exact ⟨⟨b_14, by rw [e9]⟩, X.2.1, X.2.2.1, _, by rw [hcap, e9]; exact ⟨hcp.1, hcp.2, by dsimp only; omega⟩, fun j _ => rfl, (BOk_rfS hby (by rw [clf (show f_15 < 2 ^ 31 by omega)]; exact mass_small (hmass f_15 hf_15))), by rw [e9]; simp only [slR_eq, uu10]⟩)
          · have hg0 : 0 + 1 + sb_dg m0 + 1 + sb_dg m1 + 1 + sb_dg m2 + 1 + sb_dg m3 + 1 = 13 := by omega
            have hg3 : cp = 16 := by omega
            have hg1 : 1000 ≤ tt := by omega
            have hg2 : tt < 10000 := by omega
            refine va_callr (va_runV (As := [.int (nI tt)]) (rest := []) C.1 (cJ4_appG_ok l G (setRow (sbB X w_1106) 11 w_1105) (hcap.trans hg3) ((congrFun rd_out _).trans kn_1107) (BOk_fit (by subst ew_1105; subst ew_1106; subst ew_1089; subst ew_1090; subst ew_1075; subst ew_1076; subst ew_1018; subst ew_1019; subst ew_1004; subst ew_1005; subst ew_876; subst ew_877; subst ew_862; subst ew_863; subst ew_592; subst ew_593; subst ew_578; subst ew_579; subst ew_25; exact BOk_upd (BOk_decR (BOk_upd (BOk_decR (BOk_upd (BOk_decR (BOk_upd (BOk_decR (BOk_upd hby (by decide)) (show m0 < 10000 by omega)) (by decide)) (show m1 < 10000 by omega)) (by decide)) (show m2 < 10000 by omega)) (by decide)) (show m3 < 10000 by omega)) (by decide))) (0 + 1 + sb_dg m0 + 1 + sb_dg m1 + 1 + sb_dg m2 + 1 + sb_dg m3 + 1) ((congrFun rd_out _).trans kn_1108) (by omega) tt hg1 hg2) (cwV 1 C.1.2.2.2.2 (gV qw_1319 qw_525 qw_526 qw_78 qw_527) rfl rfl rfl (by decide +kernel) ⟨Nat.le_of_ble_eq_true rfl, Nat.le_of_ble_eq_true rfl⟩) (g_rSB C hW_1109 hS_1102 [.int (nI tt)]) rfl rfl hl_1095.1 rfl (lv_room (Nat.le_of_ble_eq_true rfl)) dX7_renderFurnace_83 ⟨by decide, by decide⟩) hS_1102 (fun _ _ h => h) (fun _ h => h) (fun u9 ra9 t9 H8 locs8 ht9 _ hp9 hB9 _ _ hS8 => ?_)
            obtain ⟨hr9, a9, hy9⟩ := hp9
            obtain ⟨hb9, hW9⟩ := hB9
            subst hb9
            obtain ⟨w9, ew9⟩ : ∃ Z9, Z9 = upd w_1105 (10) (nI (0 + 1 + sb_dg m0 + 1 + sb_dg m1 + 1 + sb_dg m2 + 1 + sb_dg m3 + 1 + 4)) := ⟨_, rfl⟩
            obtain ⟨X2, eX2⟩ : ∃ Z9 : St, Z9 = (X.1, (a9, (34, (upd (upd (upd (upd (va_cpy w_1106 (fun _ => 0) 0 0 16) (0 + 1 + sb_dg m0 + 1 + sb_dg m1 + 1 + sb_dg m2 + 1 + sb_dg m3 + 1 + 3) (nI (48 + tt % 100 % 10))) (0 + 1 + sb_dg m0 + 1 + sb_dg m1 + 1 + sb_dg m2 + 1 + sb_dg m3 + 1 + 2) (nI (48 + tt % 100 / 10))) (0 + 1 + sb_dg m0 + 1 + sb_dg m1 + 1 + sb_dg m2 + 1 + sb_dg m3 + 1 + 1) (nI (48 + tt / 100 % 10))) (0 + 1 + sb_dg m0 + 1 + sb_dg m1 + 1 + sb_dg m2 + 1 + sb_dg m3 + 1) (nI (48 + tt / 100 / 10)), X.2.2.2.2)))) := ⟨_, rfl⟩
            have kn9 : w9 (10) = nI (0 + 1 + sb_dg m0 + 1 + sb_dg m1 + 1 + sb_dg m2 + 1 + sb_dg m3 + 1 + 4) := by rw [ew9]; exact pk_us
            have hW0 : Wd G u9.2 H8 := (by rw [← ht9]; exact hW9)
            have hW10 : Wd G (setRow X2 11 w9) H8 := Wd.cast (by subst ew9 eX2; rw [hy9]; exact sr_out (X := (X.1, (a9, (34, (upd (upd (upd (upd (va_cpy w_1106 (fun _ => 0) 0 0 16) (0 + 1 + sb_dg m0 + 1 + sb_dg m1 + 1 + sb_dg m2 + 1 + sb_dg m3 + 1 + 3) (nI (48 + tt % 100 % 10))) (0 + 1 + sb_dg m0 + 1 + sb_dg m1 + 1 + sb_dg m2 + 1 + sb_dg m3 + 1 + 2) (nI (48 + tt % 100 / 10))) (0 + 1 + sb_dg m0 + 1 + sb_dg m1 + 1 + sb_dg m2 + 1 + sb_dg m3 + 1 + 1) (nI (48 + tt / 100 % 10))) (0 + 1 + sb_dg m0 + 1 + sb_dg m1 + 1 + sb_dg m2 + 1 + sb_dg m3 + 1) (nI (48 + tt / 100 / 10)), X.2.2.2.2)))))) hW0
            refine lv_pop hx hb dX7_renderFurnace_86 rfl ?_
            refine lv_aload_n hx hb dX7_renderFurnace_87 rfl (lv_at hl_1095 3 rfl) ?_
            refine gF_output C hW10 (hwc hwX7) (mc qw_294) dX7_renderFurnace_88 ?_
            refine g_calli (va_runV (As := []) (rest := []) C.1 (cJ4_length_8abf5_ok l G (setRow X2 11 w9) (0 + 1 + sb_dg m0 + 1 + sb_dg m1 + 1 + sb_dg m2 + 1 + sb_dg m3 + 1 + 4) ((congrFun rd_out _).trans kn9)) (cwV 0 C.1.2.2.2.2 (gV qw_767 qw_571 qw_1956 qw_78 qw_572) rfl rfl rfl (by decide +kernel) ⟨Nat.le_of_ble_eq_true rfl, Nat.le_of_ble_eq_true rfl⟩) (g_rSB C hW10 hS8 []) rfl rfl hl_1095.1 rfl (lv_room (Nat.le_of_ble_eq_true rfl)) dX7_renderFurnace_91 ⟨by decide, by decide⟩) hS8 (fun r_1134 Y_1133 H_1135 locs_1136 hW_1137 hS_1138 h_1132 => ?_)
            obtain ⟨h_1132, hy_1139⟩ := h_1132
            replace hy_1139 := hy_1139.symm
            subst hy_1139
            subst h_1132
            refine W.widen (k := 7) (n := 42) (by decide) (by decide) ?_
            refine vx_ret ?_
            exact g_iret C hr hlk hW_1137 hS_1138 dX7_renderFurnace_94 (by have e9 : rfS (X.1 0) (9 + 6 * (nI f_15).toNatClampNeg) X.2.2.2.1 = (0 + 1 + sb_dg m0 + 1 + sb_dg m1 + 1 + sb_dg m2 + 1 + sb_dg m3 + 1 + sb_dg tt, decR w_1106 (0 + 1 + sb_dg m0 + 1 + sb_dg m1 + 1 + sb_dg m2 + 1 + sb_dg m3 + 1) tt) := (by subst eX2; subst ew9; subst ew_1105; subst ew_1106; subst ew_1089; subst ew_1090; subst ew_1075; subst ew_1076; subst ew_1018; subst ew_1019; subst ew_1004; subst ew_1005; subst ew_876; subst ew_877; subst ew_862; subst ew_863; subst ew_592; subst ew_593; subst ew_578; subst ew_579; subst ew_25; simp only [rfS, rfM, ltN, clf (show f_15 < 2 ^ 31 by omega), em0, em1, em2, em3, em4, clf (show m0 < 2 ^ 31 by omega), clf (show m1 < 2 ^ 31 by omega), clf (show m2 < 2 ^ 31 by omega), clf (show m3 < 2 ^ 31 by omega), clf (show tt < 2 ^ 31 by omega), b_33, b_601, b_885, b_1027, if_true, if_false]); subst eX2; subst ew9; subst ew_1105; subst ew_1106; subst ew_1089; subst ew_1090; subst ew_1075; subst ew_1076; subst ew_1018; subst ew_1019; subst ew_1004; subst ew_1005; subst ew_876; subst ew_877; subst ew_862; subst ew_863; subst ew_592; subst ew_593; subst ew_578; subst ew_579; subst ew_25; exact ⟨⟨b_14, by rw [e9, sb_dg4 hg1 hg2]⟩, a9, 34, _, ⟨by decide, by decide, by rw [e9]; dsimp only; omega⟩, fun j hj => (by rw [e9] at hj ⊢; exact decG_agree hg0 hg1 hg2 (by rw [← sb_dg4 hg1 hg2]; exact hj)), BOk_dec4 (BOk_cpy (BOk_upd (BOk_decR (BOk_upd (BOk_decR (BOk_upd (BOk_decR (BOk_upd (BOk_decR (BOk_upd hby (by decide)) (show m0 < 10000 by omega)) (by decide)) (show m1 < 10000 by omega)) (by decide)) (show m2 < 10000 by omega)) (by decide)) (show m3 < 10000 by omega)) (by decide))) (by omega), by rw [e9, sb_dg4 hg1 hg2]; simp only [slR_eq, uu10]; first | done | rfl⟩)
