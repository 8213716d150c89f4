/-! The commands done. -/
set_option maxHeartbeats 4000000 in
set_option maxRecDepth 100000 in
theorem cX8_command10_ok (l : Launch) (G : GT) (X : St) (pp L : Nat) (hp : pp ≤ L) (hL : L ≤ 60) (e6 : X.1 15 6 = nI pp) (e7 : X.1 15 7 = nI L) (e9 : X.1 15 9 = 0) (hwd : WdOk (X.1 25) (X.1 26)) (e10 : X.1 15 10 = 1) (p1 : Nat) (hp1 : p1 ≤ L) (z1 : Nat → Int32) (hw9 : wdM (X.1 22) L pp (X.1 24) = (0, p1, 0, z1)) (hm : MInv (X.1 16)) (hok : (ca0 (X.1 22) L p1).2.2.2.2 = 0) : MetV l G yX8_command (wsG yX8_command cX8_command 6 none) (rmz 5 114) [.ref (ad G 723)] X (fun Y => Y = setRow (setRow (setRow (setRow X 15 (doM 0 (ps (X.1 15) (ca0 (X.1 22) L p1).2.2.2.1 0) (X.1 16) (X.1 20) (X.1 21) (ca0 (X.1 22) L p1).1 (ca0 (X.1 22) L p1).2.1 (ca0 (X.1 22) L p1).2.2.1).1) 24 z1) 16 (doM 0 (ps (X.1 15) (ca0 (X.1 22) L p1).2.2.2.1 0) (X.1 16) (X.1 20) (X.1 21) (ca0 (X.1 22) L p1).1 (ca0 (X.1 22) L p1).2.1 (ca0 (X.1 22) L p1).2.2.1).2.1) 20 (doM 0 (ps (X.1 15) (ca0 (X.1 22) L p1).2.2.2.1 0) (X.1 16) (X.1 20) (X.1 21) (ca0 (X.1 22) L p1).1 (ca0 (X.1 22) L p1).2.1 (ca0 (X.1 22) L p1).2.2.1).2.2) := by
  refine g_met (cc := cX8_command) (maxL := 6) (ret := none) (by decide) rfl (Nat.le_of_ble_eq_true rfl) ?_
  intro p e s m below meth c ls C hr hlk hnm hW hl
  have hx := C.1.1
  have hb := C.1.2.1
  have hS : va_S (Ab G) s.heap s.heap [] := va_S.rf
  have hl : lv_has ls 6 [(0, .ref (ad G 723))] := hl
  have hW : Wd G (setRow (setRow (setRow (setRow (X) 15 (X.1 15)) 24 (X.1 24)) 16 (X.1 16)) 20 (X.1 20)) s.heap := Wd.cast (((((sr_same (X := setRow (setRow (setRow (X) 15 (X.1 15)) 24 (X.1 24)) 16 (X.1 16)) (r := 20) rfl).trans (sr_same (X := setRow (setRow (X) 15 (X.1 15)) 24 (X.1 24)) (r := 16) rfl)).trans (sr_same (X := setRow (X) 15 (X.1 15)) (r := 24) rfl)).trans (sr_same (X := X) (r := 15) rfl))).symm hW
  refine lv_aload_n hx hb dX8_command_0 rfl (lv_at hl 0 rfl) ?_
  refine g_calli (va_runV (As := []) (rest := []) C.1 (cX8_word_ok l G (setRow (setRow (setRow (setRow X 15 (X.1 15)) 24 (X.1 24)) 16 (X.1 16)) 20 (X.1 20)) pp L (show pp ≤ L by omega) hL e6 e7 e9 hwd) (cwV 0 C.1.2.2.2.2 (gV qw_1895 qw_1897 qw_63 qw_81 qw_1898) rfl rfl rfl (by decide +kernel) ⟨Nat.le_of_ble_eq_true rfl, Nat.le_of_ble_eq_true rfl⟩) (g_rModel C hW hS []) rfl rfl hl.1 rfl (lv_room (Nat.le_of_ble_eq_true rfl)) dX8_command_1 ⟨Nat.zero_le _, Nat.zero_le _⟩) hS (fun r_2 Y_3 H_4 locs_5 hW_6 hS_7 h_1 => ?_)
  replace h_1 : r_2 = (wdM (X.1 22) L pp (X.1 24)).1 ∧ Y_3 = setRow (setRow (setRow (setRow (setRow (setRow X 15 (X.1 15)) 24 (X.1 24)) 16 (X.1 16)) 20 (X.1 20)) 15 (ps (X.1 15) (wdM (X.1 22) L pp (X.1 24)).2.1 (wdM (X.1 22) L pp (X.1 24)).2.2.1)) 24 (wdM (X.1 22) L pp (X.1 24)).2.2.2 := h_1
  rw [hw9] at h_1
  obtain ⟨h_8, h_1⟩ := h_1
  replace h_8 : r_2 = 0 := h_8
  subst h_8
  replace h_1 : Y_3 = setRow (setRow (setRow (setRow (setRow (setRow X 15 (X.1 15)) 24 (X.1 24)) 16 (X.1 16)) 20 (X.1 20)) 15 (ps (X.1 15) p1 0)) 24 z1 := h_1
  replace h_1 : Y_3 = setRow (setRow (setRow (setRow (setRow (setRow X 15 (X.1 15)) 24 (X.1 24)) 16 (X.1 16)) 20 (X.1 20)) 15 (ps (X.1 15) p1 0)) 24 z1 := h_1
  obtain ⟨w_9, ew_9⟩ : ∃ Z9, Z9 = ps (X.1 15) p1 0 := ⟨_, rfl⟩
  obtain ⟨w_10, ew_10⟩ : ∃ Z9, Z9 = z1 := ⟨_, rfl⟩
  have qqw_9 : Y_3 = setRow (setRow (setRow (setRow (setRow (setRow X 15 (X.1 15)) 24 (X.1 24)) 16 (X.1 16)) 20 (X.1 20)) 15 w_9) 24 w_10 := by rw [h_1, ew_9, ew_10]
  have hW_11 : Wd G (setRow (setRow (setRow (setRow X 15 w_9) 24 w_10) 16 (X.1 16)) 20 (X.1 20)) H_4 := Wd.cast (((qqw_9).trans (congrArg (fun Z9 => setRow (Z9) 24 w_10) (sr_in (by decide) (sr_in (by decide) (sr_in (by decide) sr_out))))).trans (congrArg (fun Z9 => Z9) (sr_in (by decide) (sr_in (by decide) sr_out)))) hW_6
  have kn_12 : w_9 (7) = nI L := by rw [ew_9]; exact (ps_o (by decide) (by decide)).trans e7
  have kn_13 : w_9 (10) = 1 := by rw [ew_9]; exact (ps_o (by decide) (by decide)).trans e10
  have kn_14 : w_9 (6) = nI p1 := by rw [ew_9]; exact ps_6
  have kn_15 : w_9 (9) = 0 := by rw [ew_9]; exact ps_9
  refine lv_istore_n (lv' := [(1, .int 0), (0, .ref (ad G 723))]) hx hb dX8_command_4 rfl hl (by decide) rfl (fun ls_16 hl_17 => ?_)
  refine lv_iconst (v := 0) hx hb dX8_command_5 (by decide) ?_
  refine lv_istore_n (lv' := [(2, .int 0), (1, .int 0), (0, .ref (ad G 723))]) hx hb dX8_command_6 rfl hl_17 (by decide) rfl (fun ls_18 hl_19 => ?_)
  refine lv_iconst (v := 0) hx hb dX8_command_7 (by decide) ?_
  refine lv_istore_n (lv' := [(3, .int 0), (2, .int 0), (1, .int 0), (0, .ref (ad G 723))]) hx hb dX8_command_8 rfl hl_19 (by decide) rfl (fun ls_20 hl_21 => ?_)
  refine lv_aload_n hx hb dX8_command_9 rfl (lv_at hl_21 3 rfl) ?_
  refine gM_isWrong C hW_11 (hwc hwX8) (mc qw_1496) dX8_command_10 ?_
  refine g_top (y := w_9 (9)) (congrFun (rd_in (by decide) (rd_in (by decide) (rd_in (by decide) rd_out))) _) ?_
  refine g_top (y := 0) kn_15 ?_
  refine lv_if_eq (tgt := 17) hx hb dX8_command_13 (by decide) (fun _ => ?_) (fun h9 => absurd h9 (by decide))
  refine lv_aload_n hx hb dX8_command_17 rfl (lv_at hl_21 3 rfl) ?_
  refine lv_iload_n hx hb dX8_command_18 rfl (lv_at hl_21 2 rfl) ?_
  refine lv_iconst (v := 5) hx hb dX8_command_19 (by decide) ?_
  refine lv_icmp_eq (tgt := 29) hx hb dX8_command_20 (by decide) (fun h9 => absurd h9 (by decide)) (fun _ => ?_)
  refine lv_iload_n hx hb dX8_command_23 rfl (lv_at hl_21 2 rfl) ?_
  refine lv_bipush (v := 8) hx hb dX8_command_24 (by decide) ?_
  refine lv_icmp_lt (tgt := 33) hx hb dX8_command_26 (by decide) (fun _ => ?_) (fun h9 => absurd h9 (by decide))
  refine lv_iconst (v := 1) hx hb dX8_command_33 (by decide) ?_
  refine g_calli (va_runV (As := [.int 1]) (rest := []) C.1 (cX8_digits_ok l G (setRow (setRow (setRow (setRow X 15 w_9) 24 w_10) 16 (X.1 16)) 20 (X.1 20)) p1 L (show p1 ≤ L by omega) hL kn_14 kn_12 kn_15 1 (by omega)) (cwV 1 C.1.2.2.2.2 (gV qw_1903 qw_1905 qw_65 qw_81 qw_1906) rfl rfl rfl (by decide +kernel) ⟨Nat.le_of_ble_eq_true rfl, Nat.le_of_ble_eq_true rfl⟩) (g_rModel C hW_11 hS_7 [.int 1]) rfl rfl hl_21.1 rfl (lv_room (Nat.le_of_ble_eq_true rfl)) dX8_command_34 ⟨Nat.zero_le _, Nat.zero_le _⟩) hS_7 (fun r_23 Y_24 H_25 locs_26 hW_27 hS_28 h_22 => ?_)
  replace h_22 : r_23 = (dgM (X.1 22) L 1 p1).1 ∧ Y_24 = setRow (setRow (setRow (setRow (setRow X 15 w_9) 24 w_10) 16 (X.1 16)) 20 (X.1 20)) 15 (ps w_9 (dgM (X.1 22) L 1 p1).2.1 (dgM (X.1 22) L 1 p1).2.2) := h_22
  obtain ⟨n_29, p_30, c_31, hd_32⟩ : ∃ x9 y9 z9, dgM (X.1 22) L 1 p1 = (x9, y9, z9) := ⟨_, _, _, rfl⟩
  rw [hd_32] at h_22
  obtain ⟨h_33, h_22⟩ := h_22
  replace h_33 : r_23 = n_29 := h_33
  subst h_33
  have hp_30 : p_30 ≤ L := dgM_le (show p1 ≤ L by omega) hd_32
  rcases dgM_b hd_32 with hbc_31 | hbc_31
  · rw [hbc_31] at hd_32 h_22
    replace h_22 : Y_24 = setRow (setRow (setRow (setRow (setRow X 15 w_9) 24 w_10) 16 (X.1 16)) 20 (X.1 20)) 15 (ps w_9 p_30 0) := h_22
    replace h_22 : Y_24 = setRow (setRow (setRow (setRow (setRow X 15 w_9) 24 w_10) 16 (X.1 16)) 20 (X.1 20)) 15 (ps w_9 p_30 0) := h_22
    obtain ⟨w_34, ew_34⟩ : ∃ Z9, Z9 = ps w_9 p_30 0 := ⟨_, rfl⟩
    have qqw_34 : Y_24 = setRow (setRow (setRow (setRow (setRow X 15 w_9) 24 w_10) 16 (X.1 16)) 20 (X.1 20)) 15 w_34 := by rw [h_22, ew_34]
    have hW_35 : Wd G (setRow (setRow (setRow (setRow X 15 w_34) 24 w_10) 16 (X.1 16)) 20 (X.1 20)) H_25 := Wd.cast ((qqw_34).trans (congrArg (fun Z9 => Z9) (sr_in (by decide) (sr_in (by decide) (sr_in (by decide) sr_out))))) hW_27
    have kn_36 : w_34 (7) = nI L := by rw [ew_34]; exact (ps_o (by decide) (by decide)).trans kn_12
    have kn_37 : w_34 (10) = 1 := by rw [ew_34]; exact (ps_o (by decide) (by decide)).trans kn_13
    have kn_38 : w_34 (6) = nI p_30 := by rw [ew_34]; exact ps_6
    have kn_39 : w_34 (9) = 0 := by rw [ew_34]; exact ps_9
    refine lv_istore (lv' := [(4, .int r_23), (3, .int 0), (2, .int 0), (1, .int 0), (0, .ref (ad G 723))]) hx hb dX8_command_37 hl_21 (by decide) rfl (fun ls_40 hl_41 => ?_)
    refine lv_iload_n hx hb dX8_command_39 rfl (lv_at hl_41 3 rfl) ?_
    refine lv_if_ne (tgt := 55) hx hb dX8_command_40 (by decide) (fun h9 => absurd h9 (by decide)) (fun _ => ?_)
    refine lv_aload_n hx hb dX8_command_43 rfl (lv_at hl_41 4 rfl) ?_
    refine gM_isWrong C hW_35 (hwc hwX8) (mc qw_1496) dX8_command_44 ?_
    refine g_top (y := w_34 (9)) (congrFun (rd_in (by decide) (rd_in (by decide) (rd_in (by decide) rd_out))) _) ?_
    refine g_top (y := 0) kn_39 ?_
    refine lv_if_ne (tgt := 55) hx hb dX8_command_47 (by decide) (fun h9 => absurd h9 (by decide)) (fun _ => ?_)
    refine lv_aload_n hx hb dX8_command_50 rfl (lv_at hl_41 4 rfl) ?_
    refine g_calli (va_runV (As := []) (rest := []) C.1 (cX8_material_ok l G (setRow (setRow (setRow (setRow X 15 w_34) 24 w_10) 16 (X.1 16)) 20 (X.1 20)) p_30 L (show p_30 ≤ L by omega) hL kn_38 kn_36 kn_39) (cwV 0 C.1.2.2.2.2 (gV qw_1907 qw_1909 qw_66 qw_81 qw_1910) rfl rfl rfl (by decide +kernel) ⟨Nat.le_of_ble_eq_true rfl, Nat.le_of_ble_eq_true rfl⟩) (g_rModel C hW_35 hS_28 []) rfl rfl hl_41.1 rfl (lv_room (Nat.le_of_ble_eq_true rfl)) dX8_command_51 ⟨Nat.zero_le _, Nat.zero_le _⟩) hS_28 (fun r_43 Y_44 H_45 locs_46 hW_47 hS_48 h_42 => ?_)
    replace h_42 : r_43 = (mtM (X.1 22) L p_30).1 ∧ Y_44 = setRow (setRow (setRow (setRow (setRow X 15 w_34) 24 w_10) 16 (X.1 16)) 20 (X.1 20)) 15 (ps w_34 (mtM (X.1 22) L p_30).2.1 (mtM (X.1 22) L p_30).2.2) := h_42
    obtain ⟨n_49, p_50, c_51, hd_52⟩ : ∃ x9 y9 z9, mtM (X.1 22) L p_30 = (x9, y9, z9) := ⟨_, _, _, rfl⟩
    rw [hd_52] at h_42
    obtain ⟨h_53, h_42⟩ := h_42
    replace h_53 : r_43 = n_49 := h_53
    subst h_53
    have hp_50 : p_50 ≤ L := mtM_le (show p_30 ≤ L by omega) hd_52
    rcases mtM_b hd_52 with hbc_51 | hbc_51
    · rw [hbc_51] at hd_52 h_42
      have hk4hd_52 := mtM_k hd_52
      replace h_42 : Y_44 = setRow (setRow (setRow (setRow (setRow X 15 w_34) 24 w_10) 16 (X.1 16)) 20 (X.1 20)) 15 (ps w_34 p_50 0) := h_42
      replace h_42 : Y_44 = setRow (setRow (setRow (setRow (setRow X 15 w_34) 24 w_10) 16 (X.1 16)) 20 (X.1 20)) 15 (ps w_34 p_50 0) := h_42
      obtain ⟨w_54, ew_54⟩ : ∃ Z9, Z9 = ps w_34 p_50 0 := ⟨_, rfl⟩
      have qqw_54 : Y_44 = setRow (setRow (setRow (setRow (setRow X 15 w_34) 24 w_10) 16 (X.1 16)) 20 (X.1 20)) 15 w_54 := by rw [h_42, ew_54]
      have hW_55 : Wd G (setRow (setRow (setRow (setRow X 15 w_54) 24 w_10) 16 (X.1 16)) 20 (X.1 20)) H_45 := Wd.cast ((qqw_54).trans (congrArg (fun Z9 => Z9) (sr_in (by decide) (sr_in (by decide) (sr_in (by decide) sr_out))))) hW_47
      have kn_56 : w_54 (7) = nI L := by rw [ew_54]; exact (ps_o (by decide) (by decide)).trans kn_36
      have kn_57 : w_54 (10) = 1 := by rw [ew_54]; exact (ps_o (by decide) (by decide)).trans kn_37
      have kn_58 : w_54 (6) = nI p_50 := by rw [ew_54]; exact ps_6
      have kn_59 : w_54 (9) = 0 := by rw [ew_54]; exact ps_9
      refine lv_istore_n (lv' := [(2, .int r_43), (4, .int r_23), (3, .int 0), (1, .int 0), (0, .ref (ad G 723))]) hx hb dX8_command_54 rfl hl_41 (by decide) rfl (fun ls_60 hl_61 => ?_)
      refine lv_iload_n hx hb dX8_command_55 rfl (lv_at hl_61 3 rfl) ?_
      refine lv_if_ne (tgt := 72) hx hb dX8_command_56 (by decide) (fun h9 => absurd h9 (by decide)) (fun _ => ?_)
      refine lv_aload_n hx hb dX8_command_59 rfl (lv_at hl_61 4 rfl) ?_
      refine gM_isWrong C hW_55 (hwc hwX8) (mc qw_1496) dX8_command_60 ?_
      refine g_top (y := w_54 (9)) (congrFun (rd_in (by decide) (rd_in (by decide) (rd_in (by decide) rd_out))) _) ?_
      refine g_top (y := 0) kn_59 ?_
      refine lv_if_ne (tgt := 72) hx hb dX8_command_63 (by decide) (fun h9 => absurd h9 (by decide)) (fun _ => ?_)
      refine lv_aload_n hx hb dX8_command_66 rfl (lv_at hl_61 4 rfl) ?_
      refine lv_iconst (v := 3) hx hb dX8_command_67 (by decide) ?_
      refine g_calli (va_runV (As := [.int 3]) (rest := []) C.1 (cX8_digits_ok l G (setRow (setRow (setRow (setRow X 15 w_54) 24 w_10) 16 (X.1 16)) 20 (X.1 20)) p_50 L (show p_50 ≤ L by omega) hL kn_58 kn_56 kn_59 3 (by omega)) (cwV 1 C.1.2.2.2.2 (gV qw_1903 qw_1905 qw_65 qw_81 qw_1906) rfl rfl rfl (by decide +kernel) ⟨Nat.le_of_ble_eq_true rfl, Nat.le_of_ble_eq_true rfl⟩) (g_rModel C hW_55 hS_48 [.int 3]) rfl rfl hl_61.1 rfl (lv_room (Nat.le_of_ble_eq_true rfl)) dX8_command_68 ⟨Nat.zero_le _, Nat.zero_le _⟩) hS_48 (fun r_63 Y_64 H_65 locs_66 hW_67 hS_68 h_62 => ?_)
      replace h_62 : r_63 = (dgM (X.1 22) L 3 p_50).1 ∧ Y_64 = setRow (setRow (setRow (setRow (setRow X 15 w_54) 24 w_10) 16 (X.1 16)) 20 (X.1 20)) 15 (ps w_54 (dgM (X.1 22) L 3 p_50).2.1 (dgM (X.1 22) L 3 p_50).2.2) := h_62
      obtain ⟨n_69, p_70, c_71, hd_72⟩ : ∃ x9 y9 z9, dgM (X.1 22) L 3 p_50 = (x9, y9, z9) := ⟨_, _, _, rfl⟩
      rw [hd_72] at h_62
      obtain ⟨h_73, h_62⟩ := h_62
      replace h_73 : r_63 = n_69 := h_73
      subst h_73
      have hp_70 : p_70 ≤ L := dgM_le (show p_50 ≤ L by omega) hd_72
      rcases dgM_b hd_72 with hbc_71 | hbc_71
      · rw [hbc_71] at hd_72 h_62
        replace h_62 : Y_64 = setRow (setRow (setRow (setRow (setRow X 15 w_54) 24 w_10) 16 (X.1 16)) 20 (X.1 20)) 15 (ps w_54 p_70 0) := h_62
        replace h_62 : Y_64 = setRow (setRow (setRow (setRow (setRow X 15 w_54) 24 w_10) 16 (X.1 16)) 20 (X.1 20)) 15 (ps w_54 p_70 0) := h_62
        obtain ⟨w_74, ew_74⟩ : ∃ Z9, Z9 = ps w_54 p_70 0 := ⟨_, rfl⟩
        have qqw_74 : Y_64 = setRow (setRow (setRow (setRow (setRow X 15 w_54) 24 w_10) 16 (X.1 16)) 20 (X.1 20)) 15 w_74 := by rw [h_62, ew_74]
        have hW_75 : Wd G (setRow (setRow (setRow (setRow X 15 w_74) 24 w_10) 16 (X.1 16)) 20 (X.1 20)) H_65 := Wd.cast ((qqw_74).trans (congrArg (fun Z9 => Z9) (sr_in (by decide) (sr_in (by decide) (sr_in (by decide) sr_out))))) hW_67
        have kn_76 : w_74 (7) = nI L := by rw [ew_74]; exact (ps_o (by decide) (by decide)).trans kn_56
        have kn_77 : w_74 (10) = 1 := by rw [ew_74]; exact (ps_o (by decide) (by decide)).trans kn_57
        have kn_78 : w_74 (6) = nI p_70 := by rw [ew_74]; exact ps_6
        have kn_79 : w_74 (9) = 0 := by rw [ew_74]; exact ps_9
        refine lv_istore_n (lv' := [(3, .int r_63), (2, .int r_43), (4, .int r_23), (1, .int 0), (0, .ref (ad G 723))]) hx hb dX8_command_71 rfl hl_61 (by decide) rfl (fun ls_80 hl_81 => ?_)
        refine lv_iload_n hx hb dX8_command_72 rfl (lv_at hl_81 3 rfl) ?_
        refine lv_iconst (v := 1) hx hb dX8_command_73 (by decide) ?_
        refine lv_icmp_eq (tgt := 99) hx hb dX8_command_74 (by decide) (fun h9 => absurd h9 (by decide)) (fun _ => ?_)
        refine lv_iload_n hx hb dX8_command_77 rfl (lv_at hl_81 3 rfl) ?_
        refine lv_iconst (v := 3) hx hb dX8_command_78 (by decide) ?_
        refine lv_icmp_eq (tgt := 99) hx hb dX8_command_79 (by decide) (fun h9 => absurd h9 (by decide)) (fun _ => ?_)
        refine lv_iload_n hx hb dX8_command_82 rfl (lv_at hl_81 3 rfl) ?_
        refine lv_iconst (v := 4) hx hb dX8_command_83 (by decide) ?_
        refine lv_icmp_eq (tgt := 99) hx hb dX8_command_84 (by decide) (fun h9 => absurd h9 (by decide)) (fun _ => ?_)
        refine lv_iload_n hx hb dX8_command_87 rfl (lv_at hl_81 3 rfl) ?_
        refine lv_bipush (v := 6) hx hb dX8_command_88 (by decide) ?_
        refine lv_icmp_eq (tgt := 99) hx hb dX8_command_90 (by decide) (fun h9 => absurd h9 (by decide)) (fun _ => ?_)
        refine lv_iload_n hx hb dX8_command_93 rfl (lv_at hl_81 3 rfl) ?_
        refine lv_bipush (v := 8) hx hb dX8_command_94 (by decide) ?_
        refine lv_icmp_ne (tgt := 112) hx hb dX8_command_96 (by decide) (fun _ => ?_) (fun h9 => absurd h9 (by decide))
        refine lv_iload_n hx hb dX8_command_112 rfl (lv_at hl_81 3 rfl) ?_
        refine lv_iconst (v := 3) hx hb dX8_command_113 (by decide) ?_
        refine lv_icmp_ne (tgt := 130) hx hb dX8_command_114 (by decide) (fun _ => ?_) (fun h9 => absurd h9 (by decide))
        refine lv_aload_n hx hb dX8_command_130 rfl (lv_at hl_81 4 rfl) ?_
        refine gM_isWrong C hW_75 (hwc hwX8) (mc qw_1496) dX8_command_131 ?_
        refine g_top (y := w_74 (9)) (congrFun (rd_in (by decide) (rd_in (by decide) (rd_in (by decide) rd_out))) _) ?_
        refine g_top (y := 0) kn_79 ?_
        refine lv_if_ne (tgt := 144) hx hb dX8_command_134 (by decide) (fun h9 => absurd h9 (by decide)) (fun _ => ?_)
        refine lv_aload_n hx hb dX8_command_137 rfl (lv_at hl_81 4 rfl) ?_
        refine gM_isDoing C hW_75 (hwc hwX8) (mc qw_1497) dX8_command_138 ?_
        refine g_top (y := w_74 (10)) (congrFun (rd_in (by decide) (rd_in (by decide) (rd_in (by decide) rd_out))) _) ?_
        refine g_top (y := 1) kn_77 ?_
        refine lv_if_ne (tgt := 145) hx hb dX8_command_141 (by decide) (fun _ => ?_) (fun h9 => absurd h9 (by decide))
        refine lv_aload_n hx hb dX8_command_145 rfl (lv_at hl_81 4 rfl) ?_
        refine lv_iload_n hx hb dX8_command_146 rfl (lv_at hl_81 3 rfl) ?_
        refine lv_iload hx hb dX8_command_147 (lv_at hl_81 2 rfl) ?_
        refine lv_iload_n hx hb dX8_command_149 rfl (lv_at hl_81 1 rfl) ?_
        refine lv_iload_n hx hb dX8_command_150 rfl (lv_at hl_81 0 rfl) ?_
        refine g_calli (va_runV (As := [.int 0, .int r_23, .int r_43, .int r_63]) (rest := []) C.1 (cX8_does0_ok l G (setRow (setRow (setRow (setRow X 15 w_74) 24 w_10) 16 (X.1 16)) 20 (X.1 20)) r_23 r_43 r_63 hm (fun _ => hk4hd_52)) (cwV 4 C.1.2.2.2.2 (gV qw_1919 qw_1921 qw_69 qw_81 qw_1922) rfl rfl rfl (by decide +kernel) ⟨Nat.le_of_ble_eq_true rfl, Nat.le_of_ble_eq_true rfl⟩) (g_rModel C hW_75 hS_68 [.int 0, .int r_23, .int r_43, .int r_63]) rfl rfl hl_81.1 rfl (lv_room (Nat.le_of_ble_eq_true rfl)) dX8_command_151 ⟨Nat.zero_le _, Nat.zero_le _⟩) hS_68 (fun r_83 Y_84 H_85 locs_86 hW_87 hS_88 h_82 => ?_)
        replace h_82 : Y_84 = setRow (setRow (setRow (setRow (setRow (setRow (setRow X 15 w_74) 24 w_10) 16 (X.1 16)) 20 (X.1 20)) 15 ((doM 0 w_74 (X.1 16) (X.1 20) (X.1 21) r_23 r_43 r_63).1)) 16 ((doM 0 w_74 (X.1 16) (X.1 20) (X.1 21) r_23 r_43 r_63).2.1)) 20 ((doM 0 w_74 (X.1 16) (X.1 20) (X.1 21) r_23 r_43 r_63).2.2) := h_82
        obtain ⟨w_89, ew_89⟩ : ∃ Z9, Z9 = (doM 0 w_74 (X.1 16) (X.1 20) (X.1 21) r_23 r_43 r_63).1 := ⟨_, rfl⟩
        obtain ⟨w_90, ew_90⟩ : ∃ Z9, Z9 = (doM 0 w_74 (X.1 16) (X.1 20) (X.1 21) r_23 r_43 r_63).2.1 := ⟨_, rfl⟩
        obtain ⟨w_91, ew_91⟩ : ∃ Z9, Z9 = (doM 0 w_74 (X.1 16) (X.1 20) (X.1 21) r_23 r_43 r_63).2.2 := ⟨_, rfl⟩
        have qqw_89 : Y_84 = setRow (setRow (setRow (setRow (setRow (setRow (setRow X 15 w_74) 24 w_10) 16 (X.1 16)) 20 (X.1 20)) 15 w_89) 16 w_90) 20 w_91 := by rw [h_82, ew_89, ew_90, ew_91]
        have hW_92 : Wd G (setRow (setRow (setRow (setRow X 15 w_89) 24 w_10) 16 w_90) 20 w_91) H_85 := Wd.cast ((((qqw_89).trans (congrArg (fun Z9 => setRow (setRow (Z9) 16 w_90) 20 w_91) (sr_in (by decide) (sr_in (by decide) (sr_in (by decide) sr_out))))).trans (congrArg (fun Z9 => setRow (Z9) 20 w_91) (sr_in (by decide) sr_out))).trans (congrArg (fun Z9 => Z9) sr_out)) hW_87
        refine lv_istore (lv' := [(5, .int r_83), (3, .int r_63), (2, .int r_43), (4, .int r_23), (1, .int 0), (0, .ref (ad G 723))]) hx hb dX8_command_154 hl_81 (by decide) rfl (fun ls_93 hl_94 => ?_)
        exact g_vret C hr hlk hW_92 hS_88 dX8_command_156 (by subst ew_91; subst ew_90; subst ew_89; subst ew_74; subst ew_54; subst ew_34; subst ew_10; subst ew_9; simp only [ca0, hd_32, hd_52, hd_72, if_true, if_false, ps_ps, Nat.one_ne_zero])
      · rw [hbc_71] at hd_72 h_62
        replace h_62 : Y_64 = setRow (setRow (setRow (setRow (setRow X 15 w_54) 24 w_10) 16 (X.1 16)) 20 (X.1 20)) 15 (ps w_54 p_70 1) := h_62
        replace h_62 : Y_64 = setRow (setRow (setRow (setRow (setRow X 15 w_54) 24 w_10) 16 (X.1 16)) 20 (X.1 20)) 15 (ps w_54 p_70 1) := h_62
        obtain ⟨w_95, ew_95⟩ : ∃ Z9, Z9 = ps w_54 p_70 1 := ⟨_, rfl⟩
        have qqw_95 : Y_64 = setRow (setRow (setRow (setRow (setRow X 15 w_54) 24 w_10) 16 (X.1 16)) 20 (X.1 20)) 15 w_95 := by rw [h_62, ew_95]
        have hW_96 : Wd G (setRow (setRow (setRow (setRow X 15 w_95) 24 w_10) 16 (X.1 16)) 20 (X.1 20)) H_65 := Wd.cast ((qqw_95).trans (congrArg (fun Z9 => Z9) (sr_in (by decide) (sr_in (by decide) (sr_in (by decide) sr_out))))) hW_67
        have kn_97 : w_95 (7) = nI L := by rw [ew_95]; exact (ps_o (by decide) (by decide)).trans kn_56
        have kn_98 : w_95 (10) = 1 := by rw [ew_95]; exact (ps_o (by decide) (by decide)).trans kn_57
        have kn_99 : w_95 (6) = nI p_70 := by rw [ew_95]; exact ps_6
        have kn_100 : w_95 (9) = 1 := by rw [ew_95]; exact ps_9
        refine lv_istore_n (lv' := [(3, .int r_63), (2, .int r_43), (4, .int r_23), (1, .int 0), (0, .ref (ad G 723))]) hx hb dX8_command_71 rfl hl_61 (by decide) rfl (fun ls_101 hl_102 => ?_)
        refine lv_iload_n hx hb dX8_command_72 rfl (lv_at hl_102 3 rfl) ?_
        refine lv_iconst (v := 1) hx hb dX8_command_73 (by decide) ?_
        refine lv_icmp_eq (tgt := 99) hx hb dX8_command_74 (by decide) (fun h9 => absurd h9 (by decide)) (fun _ => ?_)
        refine lv_iload_n hx hb dX8_command_77 rfl (lv_at hl_102 3 rfl) ?_
        refine lv_iconst (v := 3) hx hb dX8_command_78 (by decide) ?_
        refine lv_icmp_eq (tgt := 99) hx hb dX8_command_79 (by decide) (fun h9 => absurd h9 (by decide)) (fun _ => ?_)
        refine lv_iload_n hx hb dX8_command_82 rfl (lv_at hl_102 3 rfl) ?_
        refine lv_iconst (v := 4) hx hb dX8_command_83 (by decide) ?_
        refine lv_icmp_eq (tgt := 99) hx hb dX8_command_84 (by decide) (fun h9 => absurd h9 (by decide)) (fun _ => ?_)
        refine lv_iload_n hx hb dX8_command_87 rfl (lv_at hl_102 3 rfl) ?_
        refine lv_bipush (v := 6) hx hb dX8_command_88 (by decide) ?_
        refine lv_icmp_eq (tgt := 99) hx hb dX8_command_90 (by decide) (fun h9 => absurd h9 (by decide)) (fun _ => ?_)
        refine lv_iload_n hx hb dX8_command_93 rfl (lv_at hl_102 3 rfl) ?_
        refine lv_bipush (v := 8) hx hb dX8_command_94 (by decide) ?_
        refine lv_icmp_ne (tgt := 112) hx hb dX8_command_96 (by decide) (fun _ => ?_) (fun h9 => absurd h9 (by decide))
        refine lv_iload_n hx hb dX8_command_112 rfl (lv_at hl_102 3 rfl) ?_
        refine lv_iconst (v := 3) hx hb dX8_command_113 (by decide) ?_
        refine lv_icmp_ne (tgt := 130) hx hb dX8_command_114 (by decide) (fun _ => ?_) (fun h9 => absurd h9 (by decide))
        refine lv_aload_n hx hb dX8_command_130 rfl (lv_at hl_102 4 rfl) ?_
        refine gM_isWrong C hW_96 (hwc hwX8) (mc qw_1496) dX8_command_131 ?_
        refine g_top (y := w_95 (9)) (congrFun (rd_in (by decide) (rd_in (by decide) (rd_in (by decide) rd_out))) _) ?_
        refine g_top (y := 1) kn_100 ?_
        refine lv_if_ne (tgt := 144) hx hb dX8_command_134 (by decide) (fun _ => ?_) (fun h9 => absurd h9 (by decide))
        exact g_vret C hr hlk hW_96 hS_68 dX8_command_144 (absurd hok (by simp only [ca0, hd_32, hd_52, hd_72, if_true, if_false, ps_ps, Nat.one_ne_zero, not_false_eq_true]))
    · rw [hbc_51] at hd_52 h_42
      replace h_42 : Y_44 = setRow (setRow (setRow (setRow (setRow X 15 w_34) 24 w_10) 16 (X.1 16)) 20 (X.1 20)) 15 (ps w_34 p_50 1) := h_42
      replace h_42 : Y_44 = setRow (setRow (setRow (setRow (setRow X 15 w_34) 24 w_10) 16 (X.1 16)) 20 (X.1 20)) 15 (ps w_34 p_50 1) := h_42
      obtain ⟨w_103, ew_103⟩ : ∃ Z9, Z9 = ps w_34 p_50 1 := ⟨_, rfl⟩
      have qqw_103 : Y_44 = setRow (setRow (setRow (setRow (setRow X 15 w_34) 24 w_10) 16 (X.1 16)) 20 (X.1 20)) 15 w_103 := by rw [h_42, ew_103]
      have hW_104 : Wd G (setRow (setRow (setRow (setRow X 15 w_103) 24 w_10) 16 (X.1 16)) 20 (X.1 20)) H_45 := Wd.cast ((qqw_103).trans (congrArg (fun Z9 => Z9) (sr_in (by decide) (sr_in (by decide) (sr_in (by decide) sr_out))))) hW_47
      have kn_105 : w_103 (7) = nI L := by rw [ew_103]; exact (ps_o (by decide) (by decide)).trans kn_36
      have kn_106 : w_103 (10) = 1 := by rw [ew_103]; exact (ps_o (by decide) (by decide)).trans kn_37
      have kn_107 : w_103 (6) = nI p_50 := by rw [ew_103]; exact ps_6
      have kn_108 : w_103 (9) = 1 := by rw [ew_103]; exact ps_9
      refine lv_istore_n (lv' := [(2, .int r_43), (4, .int r_23), (3, .int 0), (1, .int 0), (0, .ref (ad G 723))]) hx hb dX8_command_54 rfl hl_41 (by decide) rfl (fun ls_109 hl_110 => ?_)
      refine lv_iload_n hx hb dX8_command_55 rfl (lv_at hl_110 3 rfl) ?_
      refine lv_if_ne (tgt := 72) hx hb dX8_command_56 (by decide) (fun h9 => absurd h9 (by decide)) (fun _ => ?_)
      refine lv_aload_n hx hb dX8_command_59 rfl (lv_at hl_110 4 rfl) ?_
      refine gM_isWrong C hW_104 (hwc hwX8) (mc qw_1496) dX8_command_60 ?_
      refine g_top (y := w_103 (9)) (congrFun (rd_in (by decide) (rd_in (by decide) (rd_in (by decide) rd_out))) _) ?_
      refine g_top (y := 1) kn_108 ?_
      refine lv_if_ne (tgt := 72) hx hb dX8_command_63 (by decide) (fun _ => ?_) (fun h9 => absurd h9 (by decide))
      refine lv_iload_n hx hb dX8_command_72 rfl (lv_at hl_110 3 rfl) ?_
      refine lv_iconst (v := 1) hx hb dX8_command_73 (by decide) ?_
      refine lv_icmp_eq (tgt := 99) hx hb dX8_command_74 (by decide) (fun h9 => absurd h9 (by decide)) (fun _ => ?_)
      refine lv_iload_n hx hb dX8_command_77 rfl (lv_at hl_110 3 rfl) ?_
      refine lv_iconst (v := 3) hx hb dX8_command_78 (by decide) ?_
      refine lv_icmp_eq (tgt := 99) hx hb dX8_command_79 (by decide) (fun h9 => absurd h9 (by decide)) (fun _ => ?_)
      refine lv_iload_n hx hb dX8_command_82 rfl (lv_at hl_110 3 rfl) ?_
      refine lv_iconst (v := 4) hx hb dX8_command_83 (by decide) ?_
      refine lv_icmp_eq (tgt := 99) hx hb dX8_command_84 (by decide) (fun h9 => absurd h9 (by decide)) (fun _ => ?_)
      refine lv_iload_n hx hb dX8_command_87 rfl (lv_at hl_110 3 rfl) ?_
      refine lv_bipush (v := 6) hx hb dX8_command_88 (by decide) ?_
      refine lv_icmp_eq (tgt := 99) hx hb dX8_command_90 (by decide) (fun h9 => absurd h9 (by decide)) (fun _ => ?_)
      refine lv_iload_n hx hb dX8_command_93 rfl (lv_at hl_110 3 rfl) ?_
      refine lv_bipush (v := 8) hx hb dX8_command_94 (by decide) ?_
      refine lv_icmp_ne (tgt := 112) hx hb dX8_command_96 (by decide) (fun _ => ?_) (fun h9 => absurd h9 (by decide))
      refine lv_iload_n hx hb dX8_command_112 rfl (lv_at hl_110 3 rfl) ?_
      refine lv_iconst (v := 3) hx hb dX8_command_113 (by decide) ?_
      refine lv_icmp_ne (tgt := 130) hx hb dX8_command_114 (by decide) (fun _ => ?_) (fun h9 => absurd h9 (by decide))
      refine lv_aload_n hx hb dX8_command_130 rfl (lv_at hl_110 4 rfl) ?_
      refine gM_isWrong C hW_104 (hwc hwX8) (mc qw_1496) dX8_command_131 ?_
      refine g_top (y := w_103 (9)) (congrFun (rd_in (by decide) (rd_in (by decide) (rd_in (by decide) rd_out))) _) ?_
      refine g_top (y := 1) kn_108 ?_
      refine lv_if_ne (tgt := 144) hx hb dX8_command_134 (by decide) (fun _ => ?_) (fun h9 => absurd h9 (by decide))
      exact g_vret C hr hlk hW_104 hS_48 dX8_command_144 (absurd hok (by simp only [ca0, hd_32, hd_52, if_true, if_false, ps_ps, Nat.one_ne_zero, not_false_eq_true]))
  · rw [hbc_31] at hd_32 h_22
    replace h_22 : Y_24 = setRow (setRow (setRow (setRow (setRow X 15 w_9) 24 w_10) 16 (X.1 16)) 20 (X.1 20)) 15 (ps w_9 p_30 1) := h_22
    replace h_22 : Y_24 = setRow (setRow (setRow (setRow (setRow X 15 w_9) 24 w_10) 16 (X.1 16)) 20 (X.1 20)) 15 (ps w_9 p_30 1) := h_22
    obtain ⟨w_111, ew_111⟩ : ∃ Z9, Z9 = ps w_9 p_30 1 := ⟨_, rfl⟩
    have qqw_111 : Y_24 = setRow (setRow (setRow (setRow (setRow X 15 w_9) 24 w_10) 16 (X.1 16)) 20 (X.1 20)) 15 w_111 := by rw [h_22, ew_111]
    have hW_112 : Wd G (setRow (setRow (setRow (setRow X 15 w_111) 24 w_10) 16 (X.1 16)) 20 (X.1 20)) H_25 := Wd.cast ((qqw_111).trans (congrArg (fun Z9 => Z9) (sr_in (by decide) (sr_in (by decide) (sr_in (by decide) sr_out))))) hW_27
    have kn_113 : w_111 (7) = nI L := by rw [ew_111]; exact (ps_o (by decide) (by decide)).trans kn_12
    have kn_114 : w_111 (10) = 1 := by rw [ew_111]; exact (ps_o (by decide) (by decide)).trans kn_13
    have kn_115 : w_111 (6) = nI p_30 := by rw [ew_111]; exact ps_6
    have kn_116 : w_111 (9) = 1 := by rw [ew_111]; exact ps_9
    refine lv_istore (lv' := [(4, .int r_23), (3, .int 0), (2, .int 0), (1, .int 0), (0, .ref (ad G 723))]) hx hb dX8_command_37 hl_21 (by decide) rfl (fun ls_117 hl_118 => ?_)
    refine lv_iload_n hx hb dX8_command_39 rfl (lv_at hl_118 3 rfl) ?_
    refine lv_if_ne (tgt := 55) hx hb dX8_command_40 (by decide) (fun h9 => absurd h9 (by decide)) (fun _ => ?_)
    refine lv_aload_n hx hb dX8_command_43 rfl (lv_at hl_118 4 rfl) ?_
    refine gM_isWrong C hW_112 (hwc hwX8) (mc qw_1496) dX8_command_44 ?_
    refine g_top (y := w_111 (9)) (congrFun (rd_in (by decide) (rd_in (by decide) (rd_in (by decide) rd_out))) _) ?_
    refine g_top (y := 1) kn_116 ?_
    refine lv_if_ne (tgt := 55) hx hb dX8_command_47 (by decide) (fun _ => ?_) (fun h9 => absurd h9 (by decide))
    refine lv_iload_n hx hb dX8_command_55 rfl (lv_at hl_118 3 rfl) ?_
    refine lv_if_ne (tgt := 72) hx hb dX8_command_56 (by decide) (fun h9 => absurd h9 (by decide)) (fun _ => ?_)
    refine lv_aload_n hx hb dX8_command_59 rfl (lv_at hl_118 4 rfl) ?_
    refine gM_isWrong C hW_112 (hwc hwX8) (mc qw_1496) dX8_command_60 ?_
    refine g_top (y := w_111 (9)) (congrFun (rd_in (by decide) (rd_in (by decide) (rd_in (by decide) rd_out))) _) ?_
    refine g_top (y := 1) kn_116 ?_
    refine lv_if_ne (tgt := 72) hx hb dX8_command_63 (by decide) (fun _ => ?_) (fun h9 => absurd h9 (by decide))
    refine lv_iload_n hx hb dX8_command_72 rfl (lv_at hl_118 3 rfl) ?_
    refine lv_iconst (v := 1) hx hb dX8_command_73 (by decide) ?_
    refine lv_icmp_eq (tgt := 99) hx hb dX8_command_74 (by decide) (fun h9 => absurd h9 (by decide)) (fun _ => ?_)
    refine lv_iload_n hx hb dX8_command_77 rfl (lv_at hl_118 3 rfl) ?_
    refine lv_iconst (v := 3) hx hb dX8_command_78 (by decide) ?_
    refine lv_icmp_eq (tgt := 99) hx hb dX8_command_79 (by decide) (fun h9 => absurd h9 (by decide)) (fun _ => ?_)
    refine lv_iload_n hx hb dX8_command_82 rfl (lv_at hl_118 3 rfl) ?_
    refine lv_iconst (v := 4) hx hb dX8_command_83 (by decide) ?_
    refine lv_icmp_eq (tgt := 99) hx hb dX8_command_84 (by decide) (fun h9 => absurd h9 (by decide)) (fun _ => ?_)
    refine lv_iload_n hx hb dX8_command_87 rfl (lv_at hl_118 3 rfl) ?_
    refine lv_bipush (v := 6) hx hb dX8_command_88 (by decide) ?_
    refine lv_icmp_eq (tgt := 99) hx hb dX8_command_90 (by decide) (fun h9 => absurd h9 (by decide)) (fun _ => ?_)
    refine lv_iload_n hx hb dX8_command_93 rfl (lv_at hl_118 3 rfl) ?_
    refine lv_bipush (v := 8) hx hb dX8_command_94 (by decide) ?_
    refine lv_icmp_ne (tgt := 112) hx hb dX8_command_96 (by decide) (fun _ => ?_) (fun h9 => absurd h9 (by decide))
    refine lv_iload_n hx hb dX8_command_112 rfl (lv_at hl_118 3 rfl) ?_
    refine lv_iconst (v := 3) hx hb dX8_command_113 (by decide) ?_
    refine lv_icmp_ne (tgt := 130) hx hb dX8_command_114 (by decide) (fun _ => ?_) (fun h9 => absurd h9 (by decide))
    refine lv_aload_n hx hb dX8_command_130 rfl (lv_at hl_118 4 rfl) ?_
    refine gM_isWrong C hW_112 (hwc hwX8) (mc qw_1496) dX8_command_131 ?_
    refine g_top (y := w_111 (9)) (congrFun (rd_in (by decide) (rd_in (by decide) (rd_in (by decide) rd_out))) _) ?_
    refine g_top (y := 1) kn_116 ?_
    refine lv_if_ne (tgt := 144) hx hb dX8_command_134 (by decide) (fun _ => ?_) (fun h9 => absurd h9 (by decide))
    exact g_vret C hr hlk hW_112 hS_28 dX8_command_144 (absurd hok (by simp only [ca0, hd_32, if_true, if_false, ps_ps, Nat.one_ne_zero, not_false_eq_true]))

set_option maxHeartbeats 4000000 in
set_option maxRecDepth 100000 in
theorem cX8_command11_ok (l : Launch) (G : GT) (X : St) (pp L : Nat) (hp : pp ≤ L) (hL : L ≤ 60) (e6 : X.1 15 6 = nI pp) (e7 : X.1 15 7 = nI L) (e9 : X.1 15 9 = 0) (hwd : WdOk (X.1 25) (X.1 26)) (e10 : X.1 15 10 = 1) (p1 : Nat) (hp1 : p1 ≤ L) (z1 : Nat → Int32) (hw9 : wdM (X.1 22) L pp (X.1 24) = (1, p1, 0, z1)) (hm : MInv (X.1 16)) (hok : (caA (X.1 22) L p1).2.2.2.2 = 0) : MetV l G yX8_command (wsG yX8_command cX8_command 6 none) (rmz 5 114) [.ref (ad G 723)] X (fun Y => Y = setRow (setRow (setRow (setRow X 15 (doM 1 (ps (X.1 15) (caA (X.1 22) L p1).2.2.2.1 0) (X.1 16) (X.1 20) (X.1 21) (caA (X.1 22) L p1).1 (caA (X.1 22) L p1).2.1 (caA (X.1 22) L p1).2.2.1).1) 24 z1) 16 (doM 1 (ps (X.1 15) (caA (X.1 22) L p1).2.2.2.1 0) (X.1 16) (X.1 20) (X.1 21) (caA (X.1 22) L p1).1 (caA (X.1 22) L p1).2.1 (caA (X.1 22) L p1).2.2.1).2.1) 20 (doM 1 (ps (X.1 15) (caA (X.1 22) L p1).2.2.2.1 0) (X.1 16) (X.1 20) (X.1 21) (caA (X.1 22) L p1).1 (caA (X.1 22) L p1).2.1 (caA (X.1 22) L p1).2.2.1).2.2) := by
  refine g_met (cc := cX8_command) (maxL := 6) (ret := none) (by decide) rfl (Nat.le_of_ble_eq_true rfl) ?_
  intro p e s m below meth c ls C hr hlk hnm hW hl
  have hx := C.1.1
  have hb := C.1.2.1
  have hS : va_S (Ab G) s.heap s.heap [] := va_S.rf
  have hl : lv_has ls 6 [(0, .ref (ad G 723))] := hl
  have hW : Wd G (setRow (setRow (setRow (setRow (X) 15 (X.1 15)) 24 (X.1 24)) 16 (X.1 16)) 20 (X.1 20)) s.heap := Wd.cast (((((sr_same (X := setRow (setRow (setRow (X) 15 (X.1 15)) 24 (X.1 24)) 16 (X.1 16)) (r := 20) rfl).trans (sr_same (X := setRow (setRow (X) 15 (X.1 15)) 24 (X.1 24)) (r := 16) rfl)).trans (sr_same (X := setRow (X) 15 (X.1 15)) (r := 24) rfl)).trans (sr_same (X := X) (r := 15) rfl))).symm hW
  refine lv_aload_n hx hb dX8_command_0 rfl (lv_at hl 0 rfl) ?_
  refine g_calli (va_runV (As := []) (rest := []) C.1 (cX8_word_ok l G (setRow (setRow (setRow (setRow X 15 (X.1 15)) 24 (X.1 24)) 16 (X.1 16)) 20 (X.1 20)) pp L (show pp ≤ L by omega) hL e6 e7 e9 hwd) (cwV 0 C.1.2.2.2.2 (gV qw_1895 qw_1897 qw_63 qw_81 qw_1898) rfl rfl rfl (by decide +kernel) ⟨Nat.le_of_ble_eq_true rfl, Nat.le_of_ble_eq_true rfl⟩) (g_rModel C hW hS []) rfl rfl hl.1 rfl (lv_room (Nat.le_of_ble_eq_true rfl)) dX8_command_1 ⟨Nat.zero_le _, Nat.zero_le _⟩) hS (fun r_2 Y_3 H_4 locs_5 hW_6 hS_7 h_1 => ?_)
  replace h_1 : r_2 = (wdM (X.1 22) L pp (X.1 24)).1 ∧ Y_3 = setRow (setRow (setRow (setRow (setRow (setRow X 15 (X.1 15)) 24 (X.1 24)) 16 (X.1 16)) 20 (X.1 20)) 15 (ps (X.1 15) (wdM (X.1 22) L pp (X.1 24)).2.1 (wdM (X.1 22) L pp (X.1 24)).2.2.1)) 24 (wdM (X.1 22) L pp (X.1 24)).2.2.2 := h_1
  rw [hw9] at h_1
  obtain ⟨h_8, h_1⟩ := h_1
  replace h_8 : r_2 = 1 := h_8
  subst h_8
  replace h_1 : Y_3 = setRow (setRow (setRow (setRow (setRow (setRow X 15 (X.1 15)) 24 (X.1 24)) 16 (X.1 16)) 20 (X.1 20)) 15 (ps (X.1 15) p1 0)) 24 z1 := h_1
  replace h_1 : Y_3 = setRow (setRow (setRow (setRow (setRow (setRow X 15 (X.1 15)) 24 (X.1 24)) 16 (X.1 16)) 20 (X.1 20)) 15 (ps (X.1 15) p1 0)) 24 z1 := h_1
  obtain ⟨w_9, ew_9⟩ : ∃ Z9, Z9 = ps (X.1 15) p1 0 := ⟨_, rfl⟩
  obtain ⟨w_10, ew_10⟩ : ∃ Z9, Z9 = z1 := ⟨_, rfl⟩
  have qqw_9 : Y_3 = setRow (setRow (setRow (setRow (setRow (setRow X 15 (X.1 15)) 24 (X.1 24)) 16 (X.1 16)) 20 (X.1 20)) 15 w_9) 24 w_10 := by rw [h_1, ew_9, ew_10]
  have hW_11 : Wd G (setRow (setRow (setRow (setRow X 15 w_9) 24 w_10) 16 (X.1 16)) 20 (X.1 20)) H_4 := Wd.cast (((qqw_9).trans (congrArg (fun Z9 => setRow (Z9) 24 w_10) (sr_in (by decide) (sr_in (by decide) (sr_in (by decide) sr_out))))).trans (congrArg (fun Z9 => Z9) (sr_in (by decide) (sr_in (by decide) sr_out)))) hW_6
  have kn_12 : w_9 (7) = nI L := by rw [ew_9]; exact (ps_o (by decide) (by decide)).trans e7
  have kn_13 : w_9 (10) = 1 := by rw [ew_9]; exact (ps_o (by decide) (by decide)).trans e10
  have kn_14 : w_9 (6) = nI p1 := by rw [ew_9]; exact ps_6
  have kn_15 : w_9 (9) = 0 := by rw [ew_9]; exact ps_9
  refine lv_istore_n (lv' := [(1, .int 1), (0, .ref (ad G 723))]) hx hb dX8_command_4 rfl hl (by decide) rfl (fun ls_16 hl_17 => ?_)
  refine lv_iconst (v := 0) hx hb dX8_command_5 (by decide) ?_
  refine lv_istore_n (lv' := [(2, .int 0), (1, .int 1), (0, .ref (ad G 723))]) hx hb dX8_command_6 rfl hl_17 (by decide) rfl (fun ls_18 hl_19 => ?_)
  refine lv_iconst (v := 0) hx hb dX8_command_7 (by decide) ?_
  refine lv_istore_n (lv' := [(3, .int 0), (2, .int 0), (1, .int 1), (0, .ref (ad G 723))]) hx hb dX8_command_8 rfl hl_19 (by decide) rfl (fun ls_20 hl_21 => ?_)
  refine lv_aload_n hx hb dX8_command_9 rfl (lv_at hl_21 3 rfl) ?_
  refine gM_isWrong C hW_11 (hwc hwX8) (mc qw_1496) dX8_command_10 ?_
  refine g_top (y := w_9 (9)) (congrFun (rd_in (by decide) (rd_in (by decide) (rd_in (by decide) rd_out))) _) ?_
  refine g_top (y := 0) kn_15 ?_
  refine lv_if_eq (tgt := 17) hx hb dX8_command_13 (by decide) (fun _ => ?_) (fun h9 => absurd h9 (by decide))
  refine lv_aload_n hx hb dX8_command_17 rfl (lv_at hl_21 3 rfl) ?_
  refine lv_iload_n hx hb dX8_command_18 rfl (lv_at hl_21 2 rfl) ?_
  refine lv_iconst (v := 5) hx hb dX8_command_19 (by decide) ?_
  refine lv_icmp_eq (tgt := 29) hx hb dX8_command_20 (by decide) (fun h9 => absurd h9 (by decide)) (fun _ => ?_)
  refine lv_iload_n hx hb dX8_command_23 rfl (lv_at hl_21 2 rfl) ?_
  refine lv_bipush (v := 8) hx hb dX8_command_24 (by decide) ?_
  refine lv_icmp_lt (tgt := 33) hx hb dX8_command_26 (by decide) (fun _ => ?_) (fun h9 => absurd h9 (by decide))
  refine lv_iconst (v := 1) hx hb dX8_command_33 (by decide) ?_
  refine g_calli (va_runV (As := [.int 1]) (rest := []) C.1 (cX8_digits_ok l G (setRow (setRow (setRow (setRow X 15 w_9) 24 w_10) 16 (X.1 16)) 20 (X.1 20)) p1 L (show p1 ≤ L by omega) hL kn_14 kn_12 kn_15 1 (by omega)) (cwV 1 C.1.2.2.2.2 (gV qw_1903 qw_1905 qw_65 qw_81 qw_1906) rfl rfl rfl (by decide +kernel) ⟨Nat.le_of_ble_eq_true rfl, Nat.le_of_ble_eq_true rfl⟩) (g_rModel C hW_11 hS_7 [.int 1]) rfl rfl hl_21.1 rfl (lv_room (Nat.le_of_ble_eq_true rfl)) dX8_command_34 ⟨Nat.zero_le _, Nat.zero_le _⟩) hS_7 (fun r_23 Y_24 H_25 locs_26 hW_27 hS_28 h_22 => ?_)
  replace h_22 : r_23 = (dgM (X.1 22) L 1 p1).1 ∧ Y_24 = setRow (setRow (setRow (setRow (setRow X 15 w_9) 24 w_10) 16 (X.1 16)) 20 (X.1 20)) 15 (ps w_9 (dgM (X.1 22) L 1 p1).2.1 (dgM (X.1 22) L 1 p1).2.2) := h_22
  obtain ⟨n_29, p_30, c_31, hd_32⟩ : ∃ x9 y9 z9, dgM (X.1 22) L 1 p1 = (x9, y9, z9) := ⟨_, _, _, rfl⟩
  rw [hd_32] at h_22
  obtain ⟨h_33, h_22⟩ := h_22
  replace h_33 : r_23 = n_29 := h_33
  subst h_33
  have hp_30 : p_30 ≤ L := dgM_le (show p1 ≤ L by omega) hd_32
  rcases dgM_b hd_32 with hbc_31 | hbc_31
  · rw [hbc_31] at hd_32 h_22
    replace h_22 : Y_24 = setRow (setRow (setRow (setRow (setRow X 15 w_9) 24 w_10) 16 (X.1 16)) 20 (X.1 20)) 15 (ps w_9 p_30 0) := h_22
    replace h_22 : Y_24 = setRow (setRow (setRow (setRow (setRow X 15 w_9) 24 w_10) 16 (X.1 16)) 20 (X.1 20)) 15 (ps w_9 p_30 0) := h_22
    obtain ⟨w_34, ew_34⟩ : ∃ Z9, Z9 = ps w_9 p_30 0 := ⟨_, rfl⟩
    have qqw_34 : Y_24 = setRow (setRow (setRow (setRow (setRow X 15 w_9) 24 w_10) 16 (X.1 16)) 20 (X.1 20)) 15 w_34 := by rw [h_22, ew_34]
    have hW_35 : Wd G (setRow (setRow (setRow (setRow X 15 w_34) 24 w_10) 16 (X.1 16)) 20 (X.1 20)) H_25 := Wd.cast ((qqw_34).trans (congrArg (fun Z9 => Z9) (sr_in (by decide) (sr_in (by decide) (sr_in (by decide) sr_out))))) hW_27
    have kn_36 : w_34 (7) = nI L := by rw [ew_34]; exact (ps_o (by decide) (by decide)).trans kn_12
    have kn_37 : w_34 (10) = 1 := by rw [ew_34]; exact (ps_o (by decide) (by decide)).trans kn_13
    have kn_38 : w_34 (6) = nI p_30 := by rw [ew_34]; exact ps_6
    have kn_39 : w_34 (9) = 0 := by rw [ew_34]; exact ps_9
    refine lv_istore (lv' := [(4, .int r_23), (3, .int 0), (2, .int 0), (1, .int 1), (0, .ref (ad G 723))]) hx hb dX8_command_37 hl_21 (by decide) rfl (fun ls_40 hl_41 => ?_)
    refine lv_iload_n hx hb dX8_command_39 rfl (lv_at hl_41 3 rfl) ?_
    refine lv_if_ne (tgt := 55) hx hb dX8_command_40 (by decide) (fun _ => ?_) (fun h9 => absurd h9 (by decide))
    refine lv_iload_n hx hb dX8_command_55 rfl (lv_at hl_41 3 rfl) ?_
    refine lv_if_ne (tgt := 72) hx hb dX8_command_56 (by decide) (fun _ => ?_) (fun h9 => absurd h9 (by decide))
    refine lv_iload_n hx hb dX8_command_72 rfl (lv_at hl_41 3 rfl) ?_
    refine lv_iconst (v := 1) hx hb dX8_command_73 (by decide) ?_
    refine lv_icmp_eq (tgt := 99) hx hb dX8_command_74 (by decide) (fun _ => ?_) (fun h9 => absurd h9 (by decide))
    refine lv_aload_n hx hb dX8_command_99 rfl (lv_at hl_41 4 rfl) ?_
    refine gM_isWrong C hW_35 (hwc hwX8) (mc qw_1496) dX8_command_100 ?_
    refine g_top (y := w_34 (9)) (congrFun (rd_in (by decide) (rd_in (by decide) (rd_in (by decide) rd_out))) _) ?_
    refine g_top (y := 0) kn_39 ?_
    refine lv_if_ne (tgt := 112) hx hb dX8_command_103 (by decide) (fun h9 => absurd h9 (by decide)) (fun _ => ?_)
    refine lv_aload_n hx hb dX8_command_106 rfl (lv_at hl_41 4 rfl) ?_
    refine lv_iconst (v := 1) hx hb dX8_command_107 (by decide) ?_
    refine g_calli (va_runV (As := [.int 1]) (rest := []) C.1 (cX8_behind_ok l G (setRow (setRow (setRow (setRow X 15 w_34) 24 w_10) 16 (X.1 16)) 20 (X.1 20)) p_30 L (show p_30 ≤ L by omega) hL kn_38 kn_36 kn_39 1 (by omega)) (cwV 1 C.1.2.2.2.2 (gV qw_1915 qw_1917 qw_68 qw_81 qw_1918) rfl rfl rfl (by decide +kernel) ⟨Nat.le_of_ble_eq_true rfl, Nat.le_of_ble_eq_true rfl⟩) (g_rModel C hW_35 hS_28 [.int 1]) rfl rfl hl_41.1 rfl (lv_room (Nat.le_of_ble_eq_true rfl)) dX8_command_108 ⟨Nat.zero_le _, Nat.zero_le _⟩) hS_28 (fun r_43 Y_44 H_45 locs_46 hW_47 hS_48 h_42 => ?_)
    replace h_42 : r_43 = (bhM (X.1 22) L 1 p_30).1 ∧ Y_44 = setRow (setRow (setRow (setRow (setRow X 15 w_34) 24 w_10) 16 (X.1 16)) 20 (X.1 20)) 15 (ps w_34 (bhM (X.1 22) L 1 p_30).2.1 (bhM (X.1 22) L 1 p_30).2.2) := h_42
    obtain ⟨n_49, p_50, c_51, hd_52⟩ : ∃ x9 y9 z9, bhM (X.1 22) L 1 p_30 = (x9, y9, z9) := ⟨_, _, _, rfl⟩
    rw [hd_52] at h_42
    obtain ⟨h_53, h_42⟩ := h_42
    replace h_53 : r_43 = n_49 := h_53
    subst h_53
    have hp_50 : p_50 ≤ L := bhM_le (show p_30 ≤ L by omega) hd_52
    rcases bhM_b hd_52 with hbc_51 | hbc_51
    · rw [hbc_51] at hd_52 h_42
      replace h_42 : Y_44 = setRow (setRow (setRow (setRow (setRow X 15 w_34) 24 w_10) 16 (X.1 16)) 20 (X.1 20)) 15 (ps w_34 p_50 0) := h_42
      replace h_42 : Y_44 = setRow (setRow (setRow (setRow (setRow X 15 w_34) 24 w_10) 16 (X.1 16)) 20 (X.1 20)) 15 (ps w_34 p_50 0) := h_42
      obtain ⟨w_54, ew_54⟩ : ∃ Z9, Z9 = ps w_34 p_50 0 := ⟨_, rfl⟩
      have qqw_54 : Y_44 = setRow (setRow (setRow (setRow (setRow X 15 w_34) 24 w_10) 16 (X.1 16)) 20 (X.1 20)) 15 w_54 := by rw [h_42, ew_54]
      have hW_55 : Wd G (setRow (setRow (setRow (setRow X 15 w_54) 24 w_10) 16 (X.1 16)) 20 (X.1 20)) H_45 := Wd.cast ((qqw_54).trans (congrArg (fun Z9 => Z9) (sr_in (by decide) (sr_in (by decide) (sr_in (by decide) sr_out))))) hW_47
      have kn_56 : w_54 (7) = nI L := by rw [ew_54]; exact (ps_o (by decide) (by decide)).trans kn_36
      have kn_57 : w_54 (10) = 1 := by rw [ew_54]; exact (ps_o (by decide) (by decide)).trans kn_37
      have kn_58 : w_54 (6) = nI p_50 := by rw [ew_54]; exact ps_6
      have kn_59 : w_54 (9) = 0 := by rw [ew_54]; exact ps_9
      refine lv_istore_n (lv' := [(2, .int r_43), (4, .int r_23), (3, .int 0), (1, .int 1), (0, .ref (ad G 723))]) hx hb dX8_command_111 rfl hl_41 (by decide) rfl (fun ls_60 hl_61 => ?_)
      refine lv_iload_n hx hb dX8_command_112 rfl (lv_at hl_61 3 rfl) ?_
      refine lv_iconst (v := 3) hx hb dX8_command_113 (by decide) ?_
      refine lv_icmp_ne (tgt := 130) hx hb dX8_command_114 (by decide) (fun _ => ?_) (fun h9 => absurd h9 (by decide))
      refine lv_aload_n hx hb dX8_command_130 rfl (lv_at hl_61 4 rfl) ?_
      refine gM_isWrong C hW_55 (hwc hwX8) (mc qw_1496) dX8_command_131 ?_
      refine g_top (y := w_54 (9)) (congrFun (rd_in (by decide) (rd_in (by decide) (rd_in (by decide) rd_out))) _) ?_
      refine g_top (y := 0) kn_59 ?_
      refine lv_if_ne (tgt := 144) hx hb dX8_command_134 (by decide) (fun h9 => absurd h9 (by decide)) (fun _ => ?_)
      refine lv_aload_n hx hb dX8_command_137 rfl (lv_at hl_61 4 rfl) ?_
      refine gM_isDoing C hW_55 (hwc hwX8) (mc qw_1497) dX8_command_138 ?_
      refine g_top (y := w_54 (10)) (congrFun (rd_in (by decide) (rd_in (by decide) (rd_in (by decide) rd_out))) _) ?_
      refine g_top (y := 1) kn_57 ?_
      refine lv_if_ne (tgt := 145) hx hb dX8_command_141 (by decide) (fun _ => ?_) (fun h9 => absurd h9 (by decide))
      refine lv_aload_n hx hb dX8_command_145 rfl (lv_at hl_61 4 rfl) ?_
      refine lv_iload_n hx hb dX8_command_146 rfl (lv_at hl_61 3 rfl) ?_
      refine lv_iload hx hb dX8_command_147 (lv_at hl_61 1 rfl) ?_
      refine lv_iload_n hx hb dX8_command_149 rfl (lv_at hl_61 0 rfl) ?_
      refine lv_iload_n hx hb dX8_command_150 rfl (lv_at hl_61 2 rfl) ?_
      refine g_calli (va_runV (As := [.int 1, .int r_23, .int r_43, .int 0]) (rest := []) C.1 (cX8_does1_ok l G (setRow (setRow (setRow (setRow X 15 w_54) 24 w_10) 16 (X.1 16)) 20 (X.1 20)) r_23 r_43 0 hm) (cwV 4 C.1.2.2.2.2 (gV qw_1919 qw_1921 qw_69 qw_81 qw_1922) rfl rfl rfl (by decide +kernel) ⟨Nat.le_of_ble_eq_true rfl, Nat.le_of_ble_eq_true rfl⟩) (g_rModel C hW_55 hS_48 [.int 1, .int r_23, .int r_43, .int 0]) rfl rfl hl_61.1 rfl (lv_room (Nat.le_of_ble_eq_true rfl)) dX8_command_151 ⟨Nat.zero_le _, Nat.zero_le _⟩) hS_48 (fun r_63 Y_64 H_65 locs_66 hW_67 hS_68 h_62 => ?_)
      replace h_62 : Y_64 = setRow (setRow (setRow (setRow (setRow (setRow (setRow X 15 w_54) 24 w_10) 16 (X.1 16)) 20 (X.1 20)) 15 ((doM 1 w_54 (X.1 16) (X.1 20) (X.1 21) r_23 r_43 0).1)) 16 ((doM 1 w_54 (X.1 16) (X.1 20) (X.1 21) r_23 r_43 0).2.1)) 20 ((doM 1 w_54 (X.1 16) (X.1 20) (X.1 21) r_23 r_43 0).2.2) := h_62
      obtain ⟨w_69, ew_69⟩ : ∃ Z9, Z9 = (doM 1 w_54 (X.1 16) (X.1 20) (X.1 21) r_23 r_43 0).1 := ⟨_, rfl⟩
      obtain ⟨w_70, ew_70⟩ : ∃ Z9, Z9 = (doM 1 w_54 (X.1 16) (X.1 20) (X.1 21) r_23 r_43 0).2.1 := ⟨_, rfl⟩
      obtain ⟨w_71, ew_71⟩ : ∃ Z9, Z9 = (doM 1 w_54 (X.1 16) (X.1 20) (X.1 21) r_23 r_43 0).2.2 := ⟨_, rfl⟩
      have qqw_69 : Y_64 = setRow (setRow (setRow (setRow (setRow (setRow (setRow X 15 w_54) 24 w_10) 16 (X.1 16)) 20 (X.1 20)) 15 w_69) 16 w_70) 20 w_71 := by rw [h_62, ew_69, ew_70, ew_71]
      have hW_72 : Wd G (setRow (setRow (setRow (setRow X 15 w_69) 24 w_10) 16 w_70) 20 w_71) H_65 := Wd.cast ((((qqw_69).trans (congrArg (fun Z9 => setRow (setRow (Z9) 16 w_70) 20 w_71) (sr_in (by decide) (sr_in (by decide) (sr_in (by decide) sr_out))))).trans (congrArg (fun Z9 => setRow (Z9) 20 w_71) (sr_in (by decide) sr_out))).trans (congrArg (fun Z9 => Z9) sr_out)) hW_67
      refine lv_istore (lv' := [(5, .int r_63), (2, .int r_43), (4, .int r_23), (3, .int 0), (1, .int 1), (0, .ref (ad G 723))]) hx hb dX8_command_154 hl_61 (by decide) rfl (fun ls_73 hl_74 => ?_)
      exact g_vret C hr hlk hW_72 hS_68 dX8_command_156 (by subst ew_71; subst ew_70; subst ew_69; subst ew_54; subst ew_34; subst ew_10; subst ew_9; simp only [caA, caB, hd_32, hd_52, if_true, if_false, ps_ps, Nat.one_ne_zero])
    · rw [hbc_51] at hd_52 h_42
      replace h_42 : Y_44 = setRow (setRow (setRow (setRow (setRow X 15 w_34) 24 w_10) 16 (X.1 16)) 20 (X.1 20)) 15 (ps w_34 p_50 1) := h_42
      replace h_42 : Y_44 = setRow (setRow (setRow (setRow (setRow X 15 w_34) 24 w_10) 16 (X.1 16)) 20 (X.1 20)) 15 (ps w_34 p_50 1) := h_42
      obtain ⟨w_75, ew_75⟩ : ∃ Z9, Z9 = ps w_34 p_50 1 := ⟨_, rfl⟩
      have qqw_75 : Y_44 = setRow (setRow (setRow (setRow (setRow X 15 w_34) 24 w_10) 16 (X.1 16)) 20 (X.1 20)) 15 w_75 := by rw [h_42, ew_75]
      have hW_76 : Wd G (setRow (setRow (setRow (setRow X 15 w_75) 24 w_10) 16 (X.1 16)) 20 (X.1 20)) H_45 := Wd.cast ((qqw_75).trans (congrArg (fun Z9 => Z9) (sr_in (by decide) (sr_in (by decide) (sr_in (by decide) sr_out))))) hW_47
      have kn_77 : w_75 (7) = nI L := by rw [ew_75]; exact (ps_o (by decide) (by decide)).trans kn_36
      have kn_78 : w_75 (10) = 1 := by rw [ew_75]; exact (ps_o (by decide) (by decide)).trans kn_37
      have kn_79 : w_75 (6) = nI p_50 := by rw [ew_75]; exact ps_6
      have kn_80 : w_75 (9) = 1 := by rw [ew_75]; exact ps_9
      refine lv_istore_n (lv' := [(2, .int r_43), (4, .int r_23), (3, .int 0), (1, .int 1), (0, .ref (ad G 723))]) hx hb dX8_command_111 rfl hl_41 (by decide) rfl (fun ls_81 hl_82 => ?_)
      refine lv_iload_n hx hb dX8_command_112 rfl (lv_at hl_82 3 rfl) ?_
      refine lv_iconst (v := 3) hx hb dX8_command_113 (by decide) ?_
      refine lv_icmp_ne (tgt := 130) hx hb dX8_command_114 (by decide) (fun _ => ?_) (fun h9 => absurd h9 (by decide))
      refine lv_aload_n hx hb dX8_command_130 rfl (lv_at hl_82 4 rfl) ?_
      refine gM_isWrong C hW_76 (hwc hwX8) (mc qw_1496) dX8_command_131 ?_
      refine g_top (y := w_75 (9)) (congrFun (rd_in (by decide) (rd_in (by decide) (rd_in (by decide) rd_out))) _) ?_
      refine g_top (y := 1) kn_80 ?_
      refine lv_if_ne (tgt := 144) hx hb dX8_command_134 (by decide) (fun _ => ?_) (fun h9 => absurd h9 (by decide))
      exact g_vret C hr hlk hW_76 hS_48 dX8_command_144 (absurd hok (by simp only [caA, caB, hd_32, hd_52, if_true, if_false, ps_ps, Nat.one_ne_zero, not_false_eq_true]))
  · rw [hbc_31] at hd_32 h_22
    replace h_22 : Y_24 = setRow (setRow (setRow (setRow (setRow X 15 w_9) 24 w_10) 16 (X.1 16)) 20 (X.1 20)) 15 (ps w_9 p_30 1) := h_22
    replace h_22 : Y_24 = setRow (setRow (setRow (setRow (setRow X 15 w_9) 24 w_10) 16 (X.1 16)) 20 (X.1 20)) 15 (ps w_9 p_30 1) := h_22
    obtain ⟨w_83, ew_83⟩ : ∃ Z9, Z9 = ps w_9 p_30 1 := ⟨_, rfl⟩
    have qqw_83 : Y_24 = setRow (setRow (setRow (setRow (setRow X 15 w_9) 24 w_10) 16 (X.1 16)) 20 (X.1 20)) 15 w_83 := by rw [h_22, ew_83]
    have hW_84 : Wd G (setRow (setRow (setRow (setRow X 15 w_83) 24 w_10) 16 (X.1 16)) 20 (X.1 20)) H_25 := Wd.cast ((qqw_83).trans (congrArg (fun Z9 => Z9) (sr_in (by decide) (sr_in (by decide) (sr_in (by decide) sr_out))))) hW_27
    have kn_85 : w_83 (7) = nI L := by rw [ew_83]; exact (ps_o (by decide) (by decide)).trans kn_12
    have kn_86 : w_83 (10) = 1 := by rw [ew_83]; exact (ps_o (by decide) (by decide)).trans kn_13
    have kn_87 : w_83 (6) = nI p_30 := by rw [ew_83]; exact ps_6
    have kn_88 : w_83 (9) = 1 := by rw [ew_83]; exact ps_9
    refine lv_istore (lv' := [(4, .int r_23), (3, .int 0), (2, .int 0), (1, .int 1), (0, .ref (ad G 723))]) hx hb dX8_command_37 hl_21 (by decide) rfl (fun ls_89 hl_90 => ?_)
    refine lv_iload_n hx hb dX8_command_39 rfl (lv_at hl_90 3 rfl) ?_
    refine lv_if_ne (tgt := 55) hx hb dX8_command_40 (by decide) (fun _ => ?_) (fun h9 => absurd h9 (by decide))
    refine lv_iload_n hx hb dX8_command_55 rfl (lv_at hl_90 3 rfl) ?_
    refine lv_if_ne (tgt := 72) hx hb dX8_command_56 (by decide) (fun _ => ?_) (fun h9 => absurd h9 (by decide))
    refine lv_iload_n hx hb dX8_command_72 rfl (lv_at hl_90 3 rfl) ?_
    refine lv_iconst (v := 1) hx hb dX8_command_73 (by decide) ?_
    refine lv_icmp_eq (tgt := 99) hx hb dX8_command_74 (by decide) (fun _ => ?_) (fun h9 => absurd h9 (by decide))
    refine lv_aload_n hx hb dX8_command_99 rfl (lv_at hl_90 4 rfl) ?_
    refine gM_isWrong C hW_84 (hwc hwX8) (mc qw_1496) dX8_command_100 ?_
    refine g_top (y := w_83 (9)) (congrFun (rd_in (by decide) (rd_in (by decide) (rd_in (by decide) rd_out))) _) ?_
    refine g_top (y := 1) kn_88 ?_
    refine lv_if_ne (tgt := 112) hx hb dX8_command_103 (by decide) (fun _ => ?_) (fun h9 => absurd h9 (by decide))
    refine lv_iload_n hx hb dX8_command_112 rfl (lv_at hl_90 3 rfl) ?_
    refine lv_iconst (v := 3) hx hb dX8_command_113 (by decide) ?_
    refine lv_icmp_ne (tgt := 130) hx hb dX8_command_114 (by decide) (fun _ => ?_) (fun h9 => absurd h9 (by decide))
    refine lv_aload_n hx hb dX8_command_130 rfl (lv_at hl_90 4 rfl) ?_
    refine gM_isWrong C hW_84 (hwc hwX8) (mc qw_1496) dX8_command_131 ?_
    refine g_top (y := w_83 (9)) (congrFun (rd_in (by decide) (rd_in (by decide) (rd_in (by decide) rd_out))) _) ?_
    refine g_top (y := 1) kn_88 ?_
    refine lv_if_ne (tgt := 144) hx hb dX8_command_134 (by decide) (fun _ => ?_) (fun h9 => absurd h9 (by decide))
    exact g_vret C hr hlk hW_84 hS_28 dX8_command_144 (absurd hok (by simp only [caA, caB, hd_32, if_true, if_false, ps_ps, Nat.one_ne_zero, not_false_eq_true]))

set_option maxHeartbeats 4000000 in
set_option maxRecDepth 100000 in
theorem cX8_command12_ok (l : Launch) (G : GT) (X : St) (pp L : Nat) (hp : pp ≤ L) (hL : L ≤ 60) (e6 : X.1 15 6 = nI pp) (e7 : X.1 15 7 = nI L) (e9 : X.1 15 9 = 0) (hwd : WdOk (X.1 25) (X.1 26)) (e10 : X.1 15 10 = 1) (p1 : Nat) (hp1 : p1 ≤ L) (z1 : Nat → Int32) (hw9 : wdM (X.1 22) L pp (X.1 24) = (2, p1, 0, z1)) (hm : MInv (X.1 16)) (hok : (ca2 (X.1 22) L p1).2.2.2.2 = 0) : MetV l G yX8_command (wsG yX8_command cX8_command 6 none) (rmz 5 114) [.ref (ad G 723)] X (fun Y => Y = setRow (setRow (setRow (setRow X 15 (doM 2 (ps (X.1 15) (ca2 (X.1 22) L p1).2.2.2.1 0) (X.1 16) (X.1 20) (X.1 21) (ca2 (X.1 22) L p1).1 (ca2 (X.1 22) L p1).2.1 (ca2 (X.1 22) L p1).2.2.1).1) 24 z1) 16 (doM 2 (ps (X.1 15) (ca2 (X.1 22) L p1).2.2.2.1 0) (X.1 16) (X.1 20) (X.1 21) (ca2 (X.1 22) L p1).1 (ca2 (X.1 22) L p1).2.1 (ca2 (X.1 22) L p1).2.2.1).2.1) 20 (doM 2 (ps (X.1 15) (ca2 (X.1 22) L p1).2.2.2.1 0) (X.1 16) (X.1 20) (X.1 21) (ca2 (X.1 22) L p1).1 (ca2 (X.1 22) L p1).2.1 (ca2 (X.1 22) L p1).2.2.1).2.2) := by
  refine g_met (cc := cX8_command) (maxL := 6) (ret := none) (by decide) rfl (Nat.le_of_ble_eq_true rfl) ?_
  intro p e s m below meth c ls C hr hlk hnm hW hl
  have hx := C.1.1
  have hb := C.1.2.1
  have hS : va_S (Ab G) s.heap s.heap [] := va_S.rf
  have hl : lv_has ls 6 [(0, .ref (ad G 723))] := hl
  have hW : Wd G (setRow (setRow (setRow (setRow (X) 15 (X.1 15)) 24 (X.1 24)) 16 (X.1 16)) 20 (X.1 20)) s.heap := Wd.cast (((((sr_same (X := setRow (setRow (setRow (X) 15 (X.1 15)) 24 (X.1 24)) 16 (X.1 16)) (r := 20) rfl).trans (sr_same (X := setRow (setRow (X) 15 (X.1 15)) 24 (X.1 24)) (r := 16) rfl)).trans (sr_same (X := setRow (X) 15 (X.1 15)) (r := 24) rfl)).trans (sr_same (X := X) (r := 15) rfl))).symm hW
  refine lv_aload_n hx hb dX8_command_0 rfl (lv_at hl 0 rfl) ?_
  refine g_calli (va_runV (As := []) (rest := []) C.1 (cX8_word_ok l G (setRow (setRow (setRow (setRow X 15 (X.1 15)) 24 (X.1 24)) 16 (X.1 16)) 20 (X.1 20)) pp L (show pp ≤ L by omega) hL e6 e7 e9 hwd) (cwV 0 C.1.2.2.2.2 (gV qw_1895 qw_1897 qw_63 qw_81 qw_1898) rfl rfl rfl (by decide +kernel) ⟨Nat.le_of_ble_eq_true rfl, Nat.le_of_ble_eq_true rfl⟩) (g_rModel C hW hS []) rfl rfl hl.1 rfl (lv_room (Nat.le_of_ble_eq_true rfl)) dX8_command_1 ⟨Nat.zero_le _, Nat.zero_le _⟩) hS (fun r_2 Y_3 H_4 locs_5 hW_6 hS_7 h_1 => ?_)
  replace h_1 : r_2 = (wdM (X.1 22) L pp (X.1 24)).1 ∧ Y_3 = setRow (setRow (setRow (setRow (setRow (setRow X 15 (X.1 15)) 24 (X.1 24)) 16 (X.1 16)) 20 (X.1 20)) 15 (ps (X.1 15) (wdM (X.1 22) L pp (X.1 24)).2.1 (wdM (X.1 22) L pp (X.1 24)).2.2.1)) 24 (wdM (X.1 22) L pp (X.1 24)).2.2.2 := h_1
  rw [hw9] at h_1
  obtain ⟨h_8, h_1⟩ := h_1
  replace h_8 : r_2 = 2 := h_8
  subst h_8
  replace h_1 : Y_3 = setRow (setRow (setRow (setRow (setRow (setRow X 15 (X.1 15)) 24 (X.1 24)) 16 (X.1 16)) 20 (X.1 20)) 15 (ps (X.1 15) p1 0)) 24 z1 := h_1
  replace h_1 : Y_3 = setRow (setRow (setRow (setRow (setRow (setRow X 15 (X.1 15)) 24 (X.1 24)) 16 (X.1 16)) 20 (X.1 20)) 15 (ps (X.1 15) p1 0)) 24 z1 := h_1
  obtain ⟨w_9, ew_9⟩ : ∃ Z9, Z9 = ps (X.1 15) p1 0 := ⟨_, rfl⟩
  obtain ⟨w_10, ew_10⟩ : ∃ Z9, Z9 = z1 := ⟨_, rfl⟩
  have qqw_9 : Y_3 = setRow (setRow (setRow (setRow (setRow (setRow X 15 (X.1 15)) 24 (X.1 24)) 16 (X.1 16)) 20 (X.1 20)) 15 w_9) 24 w_10 := by rw [h_1, ew_9, ew_10]
  have hW_11 : Wd G (setRow (setRow (setRow (setRow X 15 w_9) 24 w_10) 16 (X.1 16)) 20 (X.1 20)) H_4 := Wd.cast (((qqw_9).trans (congrArg (fun Z9 => setRow (Z9) 24 w_10) (sr_in (by decide) (sr_in (by decide) (sr_in (by decide) sr_out))))).trans (congrArg (fun Z9 => Z9) (sr_in (by decide) (sr_in (by decide) sr_out)))) hW_6
  have kn_12 : w_9 (7) = nI L := by rw [ew_9]; exact (ps_o (by decide) (by decide)).trans e7
  have kn_13 : w_9 (10) = 1 := by rw [ew_9]; exact (ps_o (by decide) (by decide)).trans e10
  have kn_14 : w_9 (6) = nI p1 := by rw [ew_9]; exact ps_6
  have kn_15 : w_9 (9) = 0 := by rw [ew_9]; exact ps_9
  refine lv_istore_n (lv' := [(1, .int 2), (0, .ref (ad G 723))]) hx hb dX8_command_4 rfl hl (by decide) rfl (fun ls_16 hl_17 => ?_)
  refine lv_iconst (v := 0) hx hb dX8_command_5 (by decide) ?_
  refine lv_istore_n (lv' := [(2, .int 0), (1, .int 2), (0, .ref (ad G 723))]) hx hb dX8_command_6 rfl hl_17 (by decide) rfl (fun ls_18 hl_19 => ?_)
  refine lv_iconst (v := 0) hx hb dX8_command_7 (by decide) ?_
  refine lv_istore_n (lv' := [(3, .int 0), (2, .int 0), (1, .int 2), (0, .ref (ad G 723))]) hx hb dX8_command_8 rfl hl_19 (by decide) rfl (fun ls_20 hl_21 => ?_)
  refine lv_aload_n hx hb dX8_command_9 rfl (lv_at hl_21 3 rfl) ?_
  refine gM_isWrong C hW_11 (hwc hwX8) (mc qw_1496) dX8_command_10 ?_
  refine g_top (y := w_9 (9)) (congrFun (rd_in (by decide) (rd_in (by decide) (rd_in (by decide) rd_out))) _) ?_
  refine g_top (y := 0) kn_15 ?_
  refine lv_if_eq (tgt := 17) hx hb dX8_command_13 (by decide) (fun _ => ?_) (fun h9 => absurd h9 (by decide))
  refine lv_aload_n hx hb dX8_command_17 rfl (lv_at hl_21 3 rfl) ?_
  refine lv_iload_n hx hb dX8_command_18 rfl (lv_at hl_21 2 rfl) ?_
  refine lv_iconst (v := 5) hx hb dX8_command_19 (by decide) ?_
  refine lv_icmp_eq (tgt := 29) hx hb dX8_command_20 (by decide) (fun h9 => absurd h9 (by decide)) (fun _ => ?_)
  refine lv_iload_n hx hb dX8_command_23 rfl (lv_at hl_21 2 rfl) ?_
  refine lv_bipush (v := 8) hx hb dX8_command_24 (by decide) ?_
  refine lv_icmp_lt (tgt := 33) hx hb dX8_command_26 (by decide) (fun _ => ?_) (fun h9 => absurd h9 (by decide))
  refine lv_iconst (v := 1) hx hb dX8_command_33 (by decide) ?_
  refine g_calli (va_runV (As := [.int 1]) (rest := []) C.1 (cX8_digits_ok l G (setRow (setRow (setRow (setRow X 15 w_9) 24 w_10) 16 (X.1 16)) 20 (X.1 20)) p1 L (show p1 ≤ L by omega) hL kn_14 kn_12 kn_15 1 (by omega)) (cwV 1 C.1.2.2.2.2 (gV qw_1903 qw_1905 qw_65 qw_81 qw_1906) rfl rfl rfl (by decide +kernel) ⟨Nat.le_of_ble_eq_true rfl, Nat.le_of_ble_eq_true rfl⟩) (g_rModel C hW_11 hS_7 [.int 1]) rfl rfl hl_21.1 rfl (lv_room (Nat.le_of_ble_eq_true rfl)) dX8_command_34 ⟨Nat.zero_le _, Nat.zero_le _⟩) hS_7 (fun r_23 Y_24 H_25 locs_26 hW_27 hS_28 h_22 => ?_)
  replace h_22 : r_23 = (dgM (X.1 22) L 1 p1).1 ∧ Y_24 = setRow (setRow (setRow (setRow (setRow X 15 w_9) 24 w_10) 16 (X.1 16)) 20 (X.1 20)) 15 (ps w_9 (dgM (X.1 22) L 1 p1).2.1 (dgM (X.1 22) L 1 p1).2.2) := h_22
  obtain ⟨n_29, p_30, c_31, hd_32⟩ : ∃ x9 y9 z9, dgM (X.1 22) L 1 p1 = (x9, y9, z9) := ⟨_, _, _, rfl⟩
  rw [hd_32] at h_22
  obtain ⟨h_33, h_22⟩ := h_22
  replace h_33 : r_23 = n_29 := h_33
  subst h_33
  have hp_30 : p_30 ≤ L := dgM_le (show p1 ≤ L by omega) hd_32
  rcases dgM_b hd_32 with hbc_31 | hbc_31
  · rw [hbc_31] at hd_32 h_22
    replace h_22 : Y_24 = setRow (setRow (setRow (setRow (setRow X 15 w_9) 24 w_10) 16 (X.1 16)) 20 (X.1 20)) 15 (ps w_9 p_30 0) := h_22
    replace h_22 : Y_24 = setRow (setRow (setRow (setRow (setRow X 15 w_9) 24 w_10) 16 (X.1 16)) 20 (X.1 20)) 15 (ps w_9 p_30 0) := h_22
    obtain ⟨w_34, ew_34⟩ : ∃ Z9, Z9 = ps w_9 p_30 0 := ⟨_, rfl⟩
    have qqw_34 : Y_24 = setRow (setRow (setRow (setRow (setRow X 15 w_9) 24 w_10) 16 (X.1 16)) 20 (X.1 20)) 15 w_34 := by rw [h_22, ew_34]
    have hW_35 : Wd G (setRow (setRow (setRow (setRow X 15 w_34) 24 w_10) 16 (X.1 16)) 20 (X.1 20)) H_25 := Wd.cast ((qqw_34).trans (congrArg (fun Z9 => Z9) (sr_in (by decide) (sr_in (by decide) (sr_in (by decide) sr_out))))) hW_27
    have kn_36 : w_34 (7) = nI L := by rw [ew_34]; exact (ps_o (by decide) (by decide)).trans kn_12
    have kn_37 : w_34 (10) = 1 := by rw [ew_34]; exact (ps_o (by decide) (by decide)).trans kn_13
    have kn_38 : w_34 (6) = nI p_30 := by rw [ew_34]; exact ps_6
    have kn_39 : w_34 (9) = 0 := by rw [ew_34]; exact ps_9
    refine lv_istore (lv' := [(4, .int r_23), (3, .int 0), (2, .int 0), (1, .int 2), (0, .ref (ad G 723))]) hx hb dX8_command_37 hl_21 (by decide) rfl (fun ls_40 hl_41 => ?_)
    refine lv_iload_n hx hb dX8_command_39 rfl (lv_at hl_41 3 rfl) ?_
    refine lv_if_ne (tgt := 55) hx hb dX8_command_40 (by decide) (fun _ => ?_) (fun h9 => absurd h9 (by decide))
    refine lv_iload_n hx hb dX8_command_55 rfl (lv_at hl_41 3 rfl) ?_
    refine lv_if_ne (tgt := 72) hx hb dX8_command_56 (by decide) (fun _ => ?_) (fun h9 => absurd h9 (by decide))
    refine lv_iload_n hx hb dX8_command_72 rfl (lv_at hl_41 3 rfl) ?_
    refine lv_iconst (v := 1) hx hb dX8_command_73 (by decide) ?_
    refine lv_icmp_eq (tgt := 99) hx hb dX8_command_74 (by decide) (fun h9 => absurd h9 (by decide)) (fun _ => ?_)
    refine lv_iload_n hx hb dX8_command_77 rfl (lv_at hl_41 3 rfl) ?_
    refine lv_iconst (v := 3) hx hb dX8_command_78 (by decide) ?_
    refine lv_icmp_eq (tgt := 99) hx hb dX8_command_79 (by decide) (fun h9 => absurd h9 (by decide)) (fun _ => ?_)
    refine lv_iload_n hx hb dX8_command_82 rfl (lv_at hl_41 3 rfl) ?_
    refine lv_iconst (v := 4) hx hb dX8_command_83 (by decide) ?_
    refine lv_icmp_eq (tgt := 99) hx hb dX8_command_84 (by decide) (fun h9 => absurd h9 (by decide)) (fun _ => ?_)
    refine lv_iload_n hx hb dX8_command_87 rfl (lv_at hl_41 3 rfl) ?_
    refine lv_bipush (v := 6) hx hb dX8_command_88 (by decide) ?_
    refine lv_icmp_eq (tgt := 99) hx hb dX8_command_90 (by decide) (fun h9 => absurd h9 (by decide)) (fun _ => ?_)
    refine lv_iload_n hx hb dX8_command_93 rfl (lv_at hl_41 3 rfl) ?_
    refine lv_bipush (v := 8) hx hb dX8_command_94 (by decide) ?_
    refine lv_icmp_ne (tgt := 112) hx hb dX8_command_96 (by decide) (fun _ => ?_) (fun h9 => absurd h9 (by decide))
    refine lv_iload_n hx hb dX8_command_112 rfl (lv_at hl_41 3 rfl) ?_
    refine lv_iconst (v := 3) hx hb dX8_command_113 (by decide) ?_
    refine lv_icmp_ne (tgt := 130) hx hb dX8_command_114 (by decide) (fun _ => ?_) (fun h9 => absurd h9 (by decide))
    refine lv_aload_n hx hb dX8_command_130 rfl (lv_at hl_41 4 rfl) ?_
    refine gM_isWrong C hW_35 (hwc hwX8) (mc qw_1496) dX8_command_131 ?_
    refine g_top (y := w_34 (9)) (congrFun (rd_in (by decide) (rd_in (by decide) (rd_in (by decide) rd_out))) _) ?_
    refine g_top (y := 0) kn_39 ?_
    refine lv_if_ne (tgt := 144) hx hb dX8_command_134 (by decide) (fun h9 => absurd h9 (by decide)) (fun _ => ?_)
    refine lv_aload_n hx hb dX8_command_137 rfl (lv_at hl_41 4 rfl) ?_
    refine gM_isDoing C hW_35 (hwc hwX8) (mc qw_1497) dX8_command_138 ?_
    refine g_top (y := w_34 (10)) (congrFun (rd_in (by decide) (rd_in (by decide) (rd_in (by decide) rd_out))) _) ?_
    refine g_top (y := 1) kn_37 ?_
    refine lv_if_ne (tgt := 145) hx hb dX8_command_141 (by decide) (fun _ => ?_) (fun h9 => absurd h9 (by decide))
    refine lv_aload_n hx hb dX8_command_145 rfl (lv_at hl_41 4 rfl) ?_
    refine lv_iload_n hx hb dX8_command_146 rfl (lv_at hl_41 3 rfl) ?_
    refine lv_iload hx hb dX8_command_147 (lv_at hl_41 0 rfl) ?_
    refine lv_iload_n hx hb dX8_command_149 rfl (lv_at hl_41 2 rfl) ?_
    refine lv_iload_n hx hb dX8_command_150 rfl (lv_at hl_41 1 rfl) ?_
    refine g_calli (va_runV (As := [.int 2, .int r_23, .int 0, .int 0]) (rest := []) C.1 (cX8_does2_ok l G (setRow (setRow (setRow (setRow X 15 w_34) 24 w_10) 16 (X.1 16)) 20 (X.1 20)) r_23 0 0 hm) (cwV 4 C.1.2.2.2.2 (gV qw_1919 qw_1921 qw_69 qw_81 qw_1922) rfl rfl rfl (by decide +kernel) ⟨Nat.le_of_ble_eq_true rfl, Nat.le_of_ble_eq_true rfl⟩) (g_rModel C hW_35 hS_28 [.int 2, .int r_23, .int 0, .int 0]) rfl rfl hl_41.1 rfl (lv_room (Nat.le_of_ble_eq_true rfl)) dX8_command_151 ⟨Nat.zero_le _, Nat.zero_le _⟩) hS_28 (fun r_43 Y_44 H_45 locs_46 hW_47 hS_48 h_42 => ?_)
    replace h_42 : Y_44 = setRow (setRow (setRow (setRow (setRow (setRow (setRow X 15 w_34) 24 w_10) 16 (X.1 16)) 20 (X.1 20)) 15 ((doM 2 w_34 (X.1 16) (X.1 20) (X.1 21) r_23 0 0).1)) 16 ((doM 2 w_34 (X.1 16) (X.1 20) (X.1 21) r_23 0 0).2.1)) 20 ((doM 2 w_34 (X.1 16) (X.1 20) (X.1 21) r_23 0 0).2.2) := h_42
    obtain ⟨w_49, ew_49⟩ : ∃ Z9, Z9 = (doM 2 w_34 (X.1 16) (X.1 20) (X.1 21) r_23 0 0).1 := ⟨_, rfl⟩
    obtain ⟨w_50, ew_50⟩ : ∃ Z9, Z9 = (doM 2 w_34 (X.1 16) (X.1 20) (X.1 21) r_23 0 0).2.1 := ⟨_, rfl⟩
    obtain ⟨w_51, ew_51⟩ : ∃ Z9, Z9 = (doM 2 w_34 (X.1 16) (X.1 20) (X.1 21) r_23 0 0).2.2 := ⟨_, rfl⟩
    have qqw_49 : Y_44 = setRow (setRow (setRow (setRow (setRow (setRow (setRow X 15 w_34) 24 w_10) 16 (X.1 16)) 20 (X.1 20)) 15 w_49) 16 w_50) 20 w_51 := by rw [h_42, ew_49, ew_50, ew_51]
    have hW_52 : Wd G (setRow (setRow (setRow (setRow X 15 w_49) 24 w_10) 16 w_50) 20 w_51) H_45 := Wd.cast ((((qqw_49).trans (congrArg (fun Z9 => setRow (setRow (Z9) 16 w_50) 20 w_51) (sr_in (by decide) (sr_in (by decide) (sr_in (by decide) sr_out))))).trans (congrArg (fun Z9 => setRow (Z9) 20 w_51) (sr_in (by decide) sr_out))).trans (congrArg (fun Z9 => Z9) sr_out)) hW_47
    refine lv_istore (lv' := [(5, .int r_43), (4, .int r_23), (3, .int 0), (2, .int 0), (1, .int 2), (0, .ref (ad G 723))]) hx hb dX8_command_154 hl_41 (by decide) rfl (fun ls_53 hl_54 => ?_)
    exact g_vret C hr hlk hW_52 hS_48 dX8_command_156 (by subst ew_51; subst ew_50; subst ew_49; subst ew_34; subst ew_10; subst ew_9; simp only [ca2, hd_32, if_true, if_false, ps_ps, Nat.one_ne_zero])
  · rw [hbc_31] at hd_32 h_22
    replace h_22 : Y_24 = setRow (setRow (setRow (setRow (setRow X 15 w_9) 24 w_10) 16 (X.1 16)) 20 (X.1 20)) 15 (ps w_9 p_30 1) := h_22
    replace h_22 : Y_24 = setRow (setRow (setRow (setRow (setRow X 15 w_9) 24 w_10) 16 (X.1 16)) 20 (X.1 20)) 15 (ps w_9 p_30 1) := h_22
    obtain ⟨w_55, ew_55⟩ : ∃ Z9, Z9 = ps w_9 p_30 1 := ⟨_, rfl⟩
    have qqw_55 : Y_24 = setRow (setRow (setRow (setRow (setRow X 15 w_9) 24 w_10) 16 (X.1 16)) 20 (X.1 20)) 15 w_55 := by rw [h_22, ew_55]
    have hW_56 : Wd G (setRow (setRow (setRow (setRow X 15 w_55) 24 w_10) 16 (X.1 16)) 20 (X.1 20)) H_25 := Wd.cast ((qqw_55).trans (congrArg (fun Z9 => Z9) (sr_in (by decide) (sr_in (by decide) (sr_in (by decide) sr_out))))) hW_27
    have kn_57 : w_55 (7) = nI L := by rw [ew_55]; exact (ps_o (by decide) (by decide)).trans kn_12
    have kn_58 : w_55 (10) = 1 := by rw [ew_55]; exact (ps_o (by decide) (by decide)).trans kn_13
    have kn_59 : w_55 (6) = nI p_30 := by rw [ew_55]; exact ps_6
    have kn_60 : w_55 (9) = 1 := by rw [ew_55]; exact ps_9
    refine lv_istore (lv' := [(4, .int r_23), (3, .int 0), (2, .int 0), (1, .int 2), (0, .ref (ad G 723))]) hx hb dX8_command_37 hl_21 (by decide) rfl (fun ls_61 hl_62 => ?_)
    refine lv_iload_n hx hb dX8_command_39 rfl (lv_at hl_62 3 rfl) ?_
    refine lv_if_ne (tgt := 55) hx hb dX8_command_40 (by decide) (fun _ => ?_) (fun h9 => absurd h9 (by decide))
    refine lv_iload_n hx hb dX8_command_55 rfl (lv_at hl_62 3 rfl) ?_
    refine lv_if_ne (tgt := 72) hx hb dX8_command_56 (by decide) (fun _ => ?_) (fun h9 => absurd h9 (by decide))
    refine lv_iload_n hx hb dX8_command_72 rfl (lv_at hl_62 3 rfl) ?_
    refine lv_iconst (v := 1) hx hb dX8_command_73 (by decide) ?_
    refine lv_icmp_eq (tgt := 99) hx hb dX8_command_74 (by decide) (fun h9 => absurd h9 (by decide)) (fun _ => ?_)
    refine lv_iload_n hx hb dX8_command_77 rfl (lv_at hl_62 3 rfl) ?_
    refine lv_iconst (v := 3) hx hb dX8_command_78 (by decide) ?_
    refine lv_icmp_eq (tgt := 99) hx hb dX8_command_79 (by decide) (fun h9 => absurd h9 (by decide)) (fun _ => ?_)
    refine lv_iload_n hx hb dX8_command_82 rfl (lv_at hl_62 3 rfl) ?_
    refine lv_iconst (v := 4) hx hb dX8_command_83 (by decide) ?_
    refine lv_icmp_eq (tgt := 99) hx hb dX8_command_84 (by decide) (fun h9 => absurd h9 (by decide)) (fun _ => ?_)
    refine lv_iload_n hx hb dX8_command_87 rfl (lv_at hl_62 3 rfl) ?_
    refine lv_bipush (v := 6) hx hb dX8_command_88 (by decide) ?_
    refine lv_icmp_eq (tgt := 99) hx hb dX8_command_90 (by decide) (fun h9 => absurd h9 (by decide)) (fun _ => ?_)
    refine lv_iload_n hx hb dX8_command_93 rfl (lv_at hl_62 3 rfl) ?_
    refine lv_bipush (v := 8) hx hb dX8_command_94 (by decide) ?_
    refine lv_icmp_ne (tgt := 112) hx hb dX8_command_96 (by decide) (fun _ => ?_) (fun h9 => absurd h9 (by decide))
    refine lv_iload_n hx hb dX8_command_112 rfl (lv_at hl_62 3 rfl) ?_
    refine lv_iconst (v := 3) hx hb dX8_command_113 (by decide) ?_
    refine lv_icmp_ne (tgt := 130) hx hb dX8_command_114 (by decide) (fun _ => ?_) (fun h9 => absurd h9 (by decide))
    refine lv_aload_n hx hb dX8_command_130 rfl (lv_at hl_62 4 rfl) ?_
    refine gM_isWrong C hW_56 (hwc hwX8) (mc qw_1496) dX8_command_131 ?_
    refine g_top (y := w_55 (9)) (congrFun (rd_in (by decide) (rd_in (by decide) (rd_in (by decide) rd_out))) _) ?_
    refine g_top (y := 1) kn_60 ?_
    refine lv_if_ne (tgt := 144) hx hb dX8_command_134 (by decide) (fun _ => ?_) (fun h9 => absurd h9 (by decide))
    exact g_vret C hr hlk hW_56 hS_28 dX8_command_144 (absurd hok (by simp only [ca2, hd_32, if_true, if_false, ps_ps, Nat.one_ne_zero, not_false_eq_true]))

set_option maxHeartbeats 4000000 in
set_option maxRecDepth 100000 in
theorem cX8_command13_ok (l : Launch) (G : GT) (X : St) (pp L : Nat) (hp : pp ≤ L) (hL : L ≤ 60) (e6 : X.1 15 6 = nI pp) (e7 : X.1 15 7 = nI L) (e9 : X.1 15 9 = 0) (hwd : WdOk (X.1 25) (X.1 26)) (e10 : X.1 15 10 = 1) (p1 : Nat) (hp1 : p1 ≤ L) (z1 : Nat → Int32) (hw9 : wdM (X.1 22) L pp (X.1 24) = (3, p1, 0, z1)) (hm : MInv (X.1 16)) (hok : (ca3 (X.1 22) L p1).2.2.2.2 = 0) : MetV l G yX8_command (wsG yX8_command cX8_command 6 none) (rmz 5 114) [.ref (ad G 723)] X (fun Y => Y = setRow (setRow (setRow (setRow X 15 (doM 3 (ps (X.1 15) (ca3 (X.1 22) L p1).2.2.2.1 0) (X.1 16) (X.1 20) (X.1 21) (ca3 (X.1 22) L p1).1 (ca3 (X.1 22) L p1).2.1 (ca3 (X.1 22) L p1).2.2.1).1) 24 z1) 16 (doM 3 (ps (X.1 15) (ca3 (X.1 22) L p1).2.2.2.1 0) (X.1 16) (X.1 20) (X.1 21) (ca3 (X.1 22) L p1).1 (ca3 (X.1 22) L p1).2.1 (ca3 (X.1 22) L p1).2.2.1).2.1) 20 (doM 3 (ps (X.1 15) (ca3 (X.1 22) L p1).2.2.2.1 0) (X.1 16) (X.1 20) (X.1 21) (ca3 (X.1 22) L p1).1 (ca3 (X.1 22) L p1).2.1 (ca3 (X.1 22) L p1).2.2.1).2.2) := by
  refine g_met (cc := cX8_command) (maxL := 6) (ret := none) (by decide) rfl (Nat.le_of_ble_eq_true rfl) ?_
  intro p e s m below meth c ls C hr hlk hnm hW hl
  have hx := C.1.1
  have hb := C.1.2.1
  have hS : va_S (Ab G) s.heap s.heap [] := va_S.rf
  have hl : lv_has ls 6 [(0, .ref (ad G 723))] := hl
  have hW : Wd G (setRow (setRow (setRow (setRow (X) 15 (X.1 15)) 24 (X.1 24)) 16 (X.1 16)) 20 (X.1 20)) s.heap := Wd.cast (((((sr_same (X := setRow (setRow (setRow (X) 15 (X.1 15)) 24 (X.1 24)) 16 (X.1 16)) (r := 20) rfl).trans (sr_same (X := setRow (setRow (X) 15 (X.1 15)) 24 (X.1 24)) (r := 16) rfl)).trans (sr_same (X := setRow (X) 15 (X.1 15)) (r := 24) rfl)).trans (sr_same (X := X) (r := 15) rfl))).symm hW
  refine lv_aload_n hx hb dX8_command_0 rfl (lv_at hl 0 rfl) ?_
  refine g_calli (va_runV (As := []) (rest := []) C.1 (cX8_word_ok l G (setRow (setRow (setRow (setRow X 15 (X.1 15)) 24 (X.1 24)) 16 (X.1 16)) 20 (X.1 20)) pp L (show pp ≤ L by omega) hL e6 e7 e9 hwd) (cwV 0 C.1.2.2.2.2 (gV qw_1895 qw_1897 qw_63 qw_81 qw_1898) rfl rfl rfl (by decide +kernel) ⟨Nat.le_of_ble_eq_true rfl, Nat.le_of_ble_eq_true rfl⟩) (g_rModel C hW hS []) rfl rfl hl.1 rfl (lv_room (Nat.le_of_ble_eq_true rfl)) dX8_command_1 ⟨Nat.zero_le _, Nat.zero_le _⟩) hS (fun r_2 Y_3 H_4 locs_5 hW_6 hS_7 h_1 => ?_)
  replace h_1 : r_2 = (wdM (X.1 22) L pp (X.1 24)).1 ∧ Y_3 = setRow (setRow (setRow (setRow (setRow (setRow X 15 (X.1 15)) 24 (X.1 24)) 16 (X.1 16)) 20 (X.1 20)) 15 (ps (X.1 15) (wdM (X.1 22) L pp (X.1 24)).2.1 (wdM (X.1 22) L pp (X.1 24)).2.2.1)) 24 (wdM (X.1 22) L pp (X.1 24)).2.2.2 := h_1
  rw [hw9] at h_1
  obtain ⟨h_8, h_1⟩ := h_1
  replace h_8 : r_2 = 3 := h_8
  subst h_8
  replace h_1 : Y_3 = setRow (setRow (setRow (setRow (setRow (setRow X 15 (X.1 15)) 24 (X.1 24)) 16 (X.1 16)) 20 (X.1 20)) 15 (ps (X.1 15) p1 0)) 24 z1 := h_1
  replace h_1 : Y_3 = setRow (setRow (setRow (setRow (setRow (setRow X 15 (X.1 15)) 24 (X.1 24)) 16 (X.1 16)) 20 (X.1 20)) 15 (ps (X.1 15) p1 0)) 24 z1 := h_1
  obtain ⟨w_9, ew_9⟩ : ∃ Z9, Z9 = ps (X.1 15) p1 0 := ⟨_, rfl⟩
  obtain ⟨w_10, ew_10⟩ : ∃ Z9, Z9 = z1 := ⟨_, rfl⟩
  have qqw_9 : Y_3 = setRow (setRow (setRow (setRow (setRow (setRow X 15 (X.1 15)) 24 (X.1 24)) 16 (X.1 16)) 20 (X.1 20)) 15 w_9) 24 w_10 := by rw [h_1, ew_9, ew_10]
  have hW_11 : Wd G (setRow (setRow (setRow (setRow X 15 w_9) 24 w_10) 16 (X.1 16)) 20 (X.1 20)) H_4 := Wd.cast (((qqw_9).trans (congrArg (fun Z9 => setRow (Z9) 24 w_10) (sr_in (by decide) (sr_in (by decide) (sr_in (by decide) sr_out))))).trans (congrArg (fun Z9 => Z9) (sr_in (by decide) (sr_in (by decide) sr_out)))) hW_6
  have kn_12 : w_9 (7) = nI L := by rw [ew_9]; exact (ps_o (by decide) (by decide)).trans e7
  have kn_13 : w_9 (10) = 1 := by rw [ew_9]; exact (ps_o (by decide) (by decide)).trans e10
  have kn_14 : w_9 (6) = nI p1 := by rw [ew_9]; exact ps_6
  have kn_15 : w_9 (9) = 0 := by rw [ew_9]; exact ps_9
  refine lv_istore_n (lv' := [(1, .int 3), (0, .ref (ad G 723))]) hx hb dX8_command_4 rfl hl (by decide) rfl (fun ls_16 hl_17 => ?_)
  refine lv_iconst (v := 0) hx hb dX8_command_5 (by decide) ?_
  refine lv_istore_n (lv' := [(2, .int 0), (1, .int 3), (0, .ref (ad G 723))]) hx hb dX8_command_6 rfl hl_17 (by decide) rfl (fun ls_18 hl_19 => ?_)
  refine lv_iconst (v := 0) hx hb dX8_command_7 (by decide) ?_
  refine lv_istore_n (lv' := [(3, .int 0), (2, .int 0), (1, .int 3), (0, .ref (ad G 723))]) hx hb dX8_command_8 rfl hl_19 (by decide) rfl (fun ls_20 hl_21 => ?_)
  refine lv_aload_n hx hb dX8_command_9 rfl (lv_at hl_21 3 rfl) ?_
  refine gM_isWrong C hW_11 (hwc hwX8) (mc qw_1496) dX8_command_10 ?_
  refine g_top (y := w_9 (9)) (congrFun (rd_in (by decide) (rd_in (by decide) (rd_in (by decide) rd_out))) _) ?_
  refine g_top (y := 0) kn_15 ?_
  refine lv_if_eq (tgt := 17) hx hb dX8_command_13 (by decide) (fun _ => ?_) (fun h9 => absurd h9 (by decide))
  refine lv_aload_n hx hb dX8_command_17 rfl (lv_at hl_21 3 rfl) ?_
  refine lv_iload_n hx hb dX8_command_18 rfl (lv_at hl_21 2 rfl) ?_
  refine lv_iconst (v := 5) hx hb dX8_command_19 (by decide) ?_
  refine lv_icmp_eq (tgt := 29) hx hb dX8_command_20 (by decide) (fun h9 => absurd h9 (by decide)) (fun _ => ?_)
  refine lv_iload_n hx hb dX8_command_23 rfl (lv_at hl_21 2 rfl) ?_
  refine lv_bipush (v := 8) hx hb dX8_command_24 (by decide) ?_
  refine lv_icmp_lt (tgt := 33) hx hb dX8_command_26 (by decide) (fun _ => ?_) (fun h9 => absurd h9 (by decide))
  refine lv_iconst (v := 1) hx hb dX8_command_33 (by decide) ?_
  refine g_calli (va_runV (As := [.int 1]) (rest := []) C.1 (cX8_digits_ok l G (setRow (setRow (setRow (setRow X 15 w_9) 24 w_10) 16 (X.1 16)) 20 (X.1 20)) p1 L (show p1 ≤ L by omega) hL kn_14 kn_12 kn_15 1 (by omega)) (cwV 1 C.1.2.2.2.2 (gV qw_1903 qw_1905 qw_65 qw_81 qw_1906) rfl rfl rfl (by decide +kernel) ⟨Nat.le_of_ble_eq_true rfl, Nat.le_of_ble_eq_true rfl⟩) (g_rModel C hW_11 hS_7 [.int 1]) rfl rfl hl_21.1 rfl (lv_room (Nat.le_of_ble_eq_true rfl)) dX8_command_34 ⟨Nat.zero_le _, Nat.zero_le _⟩) hS_7 (fun r_23 Y_24 H_25 locs_26 hW_27 hS_28 h_22 => ?_)
  replace h_22 : r_23 = (dgM (X.1 22) L 1 p1).1 ∧ Y_24 = setRow (setRow (setRow (setRow (setRow X 15 w_9) 24 w_10) 16 (X.1 16)) 20 (X.1 20)) 15 (ps w_9 (dgM (X.1 22) L 1 p1).2.1 (dgM (X.1 22) L 1 p1).2.2) := h_22
  obtain ⟨n_29, p_30, c_31, hd_32⟩ : ∃ x9 y9 z9, dgM (X.1 22) L 1 p1 = (x9, y9, z9) := ⟨_, _, _, rfl⟩
  rw [hd_32] at h_22
  obtain ⟨h_33, h_22⟩ := h_22
  replace h_33 : r_23 = n_29 := h_33
  subst h_33
  have hp_30 : p_30 ≤ L := dgM_le (show p1 ≤ L by omega) hd_32
  rcases dgM_b hd_32 with hbc_31 | hbc_31
  · rw [hbc_31] at hd_32 h_22
    replace h_22 : Y_24 = setRow (setRow (setRow (setRow (setRow X 15 w_9) 24 w_10) 16 (X.1 16)) 20 (X.1 20)) 15 (ps w_9 p_30 0) := h_22
    replace h_22 : Y_24 = setRow (setRow (setRow (setRow (setRow X 15 w_9) 24 w_10) 16 (X.1 16)) 20 (X.1 20)) 15 (ps w_9 p_30 0) := h_22
    obtain ⟨w_34, ew_34⟩ : ∃ Z9, Z9 = ps w_9 p_30 0 := ⟨_, rfl⟩
    have qqw_34 : Y_24 = setRow (setRow (setRow (setRow (setRow X 15 w_9) 24 w_10) 16 (X.1 16)) 20 (X.1 20)) 15 w_34 := by rw [h_22, ew_34]
    have hW_35 : Wd G (setRow (setRow (setRow (setRow X 15 w_34) 24 w_10) 16 (X.1 16)) 20 (X.1 20)) H_25 := Wd.cast ((qqw_34).trans (congrArg (fun Z9 => Z9) (sr_in (by decide) (sr_in (by decide) (sr_in (by decide) sr_out))))) hW_27
    have kn_36 : w_34 (7) = nI L := by rw [ew_34]; exact (ps_o (by decide) (by decide)).trans kn_12
    have kn_37 : w_34 (10) = 1 := by rw [ew_34]; exact (ps_o (by decide) (by decide)).trans kn_13
    have kn_38 : w_34 (6) = nI p_30 := by rw [ew_34]; exact ps_6
    have kn_39 : w_34 (9) = 0 := by rw [ew_34]; exact ps_9
    refine lv_istore (lv' := [(4, .int r_23), (3, .int 0), (2, .int 0), (1, .int 3), (0, .ref (ad G 723))]) hx hb dX8_command_37 hl_21 (by decide) rfl (fun ls_40 hl_41 => ?_)
    refine lv_iload_n hx hb dX8_command_39 rfl (lv_at hl_41 3 rfl) ?_
    refine lv_if_ne (tgt := 55) hx hb dX8_command_40 (by decide) (fun _ => ?_) (fun h9 => absurd h9 (by decide))
    refine lv_iload_n hx hb dX8_command_55 rfl (lv_at hl_41 3 rfl) ?_
    refine lv_if_ne (tgt := 72) hx hb dX8_command_56 (by decide) (fun _ => ?_) (fun h9 => absurd h9 (by decide))
    refine lv_iload_n hx hb dX8_command_72 rfl (lv_at hl_41 3 rfl) ?_
    refine lv_iconst (v := 1) hx hb dX8_command_73 (by decide) ?_
    refine lv_icmp_eq (tgt := 99) hx hb dX8_command_74 (by decide) (fun h9 => absurd h9 (by decide)) (fun _ => ?_)
    refine lv_iload_n hx hb dX8_command_77 rfl (lv_at hl_41 3 rfl) ?_
    refine lv_iconst (v := 3) hx hb dX8_command_78 (by decide) ?_
    refine lv_icmp_eq (tgt := 99) hx hb dX8_command_79 (by decide) (fun _ => ?_) (fun h9 => absurd h9 (by decide))
    refine lv_aload_n hx hb dX8_command_99 rfl (lv_at hl_41 4 rfl) ?_
    refine gM_isWrong C hW_35 (hwc hwX8) (mc qw_1496) dX8_command_100 ?_
    refine g_top (y := w_34 (9)) (congrFun (rd_in (by decide) (rd_in (by decide) (rd_in (by decide) rd_out))) _) ?_
    refine g_top (y := 0) kn_39 ?_
    refine lv_if_ne (tgt := 112) hx hb dX8_command_103 (by decide) (fun h9 => absurd h9 (by decide)) (fun _ => ?_)
    refine lv_aload_n hx hb dX8_command_106 rfl (lv_at hl_41 4 rfl) ?_
    refine lv_iconst (v := 1) hx hb dX8_command_107 (by decide) ?_
    refine g_calli (va_runV (As := [.int 1]) (rest := []) C.1 (cX8_behind_ok l G (setRow (setRow (setRow (setRow X 15 w_34) 24 w_10) 16 (X.1 16)) 20 (X.1 20)) p_30 L (show p_30 ≤ L by omega) hL kn_38 kn_36 kn_39 1 (by omega)) (cwV 1 C.1.2.2.2.2 (gV qw_1915 qw_1917 qw_68 qw_81 qw_1918) rfl rfl rfl (by decide +kernel) ⟨Nat.le_of_ble_eq_true rfl, Nat.le_of_ble_eq_true rfl⟩) (g_rModel C hW_35 hS_28 [.int 1]) rfl rfl hl_41.1 rfl (lv_room (Nat.le_of_ble_eq_true rfl)) dX8_command_108 ⟨Nat.zero_le _, Nat.zero_le _⟩) hS_28 (fun r_43 Y_44 H_45 locs_46 hW_47 hS_48 h_42 => ?_)
    replace h_42 : r_43 = (bhM (X.1 22) L 1 p_30).1 ∧ Y_44 = setRow (setRow (setRow (setRow (setRow X 15 w_34) 24 w_10) 16 (X.1 16)) 20 (X.1 20)) 15 (ps w_34 (bhM (X.1 22) L 1 p_30).2.1 (bhM (X.1 22) L 1 p_30).2.2) := h_42
    obtain ⟨n_49, p_50, c_51, hd_52⟩ : ∃ x9 y9 z9, bhM (X.1 22) L 1 p_30 = (x9, y9, z9) := ⟨_, _, _, rfl⟩
    rw [hd_52] at h_42
    obtain ⟨h_53, h_42⟩ := h_42
    replace h_53 : r_43 = n_49 := h_53
    subst h_53
    have hp_50 : p_50 ≤ L := bhM_le (show p_30 ≤ L by omega) hd_52
    rcases bhM_b hd_52 with hbc_51 | hbc_51
    · rw [hbc_51] at hd_52 h_42
      replace h_42 : Y_44 = setRow (setRow (setRow (setRow (setRow X 15 w_34) 24 w_10) 16 (X.1 16)) 20 (X.1 20)) 15 (ps w_34 p_50 0) := h_42
      replace h_42 : Y_44 = setRow (setRow (setRow (setRow (setRow X 15 w_34) 24 w_10) 16 (X.1 16)) 20 (X.1 20)) 15 (ps w_34 p_50 0) := h_42
      obtain ⟨w_54, ew_54⟩ : ∃ Z9, Z9 = ps w_34 p_50 0 := ⟨_, rfl⟩
      have qqw_54 : Y_44 = setRow (setRow (setRow (setRow (setRow X 15 w_34) 24 w_10) 16 (X.1 16)) 20 (X.1 20)) 15 w_54 := by rw [h_42, ew_54]
      have hW_55 : Wd G (setRow (setRow (setRow (setRow X 15 w_54) 24 w_10) 16 (X.1 16)) 20 (X.1 20)) H_45 := Wd.cast ((qqw_54).trans (congrArg (fun Z9 => Z9) (sr_in (by decide) (sr_in (by decide) (sr_in (by decide) sr_out))))) hW_47
      have kn_56 : w_54 (7) = nI L := by rw [ew_54]; exact (ps_o (by decide) (by decide)).trans kn_36
      have kn_57 : w_54 (10) = 1 := by rw [ew_54]; exact (ps_o (by decide) (by decide)).trans kn_37
      have kn_58 : w_54 (6) = nI p_50 := by rw [ew_54]; exact ps_6
      have kn_59 : w_54 (9) = 0 := by rw [ew_54]; exact ps_9
      refine lv_istore_n (lv' := [(2, .int r_43), (4, .int r_23), (3, .int 0), (1, .int 3), (0, .ref (ad G 723))]) hx hb dX8_command_111 rfl hl_41 (by decide) rfl (fun ls_60 hl_61 => ?_)
      refine lv_iload_n hx hb dX8_command_112 rfl (lv_at hl_61 3 rfl) ?_
      refine lv_iconst (v := 3) hx hb dX8_command_113 (by decide) ?_
      refine lv_icmp_ne (tgt := 130) hx hb dX8_command_114 (by decide) (fun h9 => absurd h9 (by decide)) (fun _ => ?_)
      refine lv_aload_n hx hb dX8_command_117 rfl (lv_at hl_61 4 rfl) ?_
      refine gM_isWrong C hW_55 (hwc hwX8) (mc qw_1496) dX8_command_118 ?_
      refine g_top (y := w_54 (9)) (congrFun (rd_in (by decide) (rd_in (by decide) (rd_in (by decide) rd_out))) _) ?_
      refine g_top (y := 0) kn_59 ?_
      refine lv_if_ne (tgt := 130) hx hb dX8_command_121 (by decide) (fun h9 => absurd h9 (by decide)) (fun _ => ?_)
      refine lv_aload_n hx hb dX8_command_124 rfl (lv_at hl_61 4 rfl) ?_
      refine lv_iconst (v := 3) hx hb dX8_command_125 (by decide) ?_
      refine g_calli (va_runV (As := [.int 3]) (rest := []) C.1 (cX8_behind_ok l G (setRow (setRow (setRow (setRow X 15 w_54) 24 w_10) 16 (X.1 16)) 20 (X.1 20)) p_50 L (show p_50 ≤ L by omega) hL kn_58 kn_56 kn_59 3 (by omega)) (cwV 1 C.1.2.2.2.2 (gV qw_1915 qw_1917 qw_68 qw_81 qw_1918) rfl rfl rfl (by decide +kernel) ⟨Nat.le_of_ble_eq_true rfl, Nat.le_of_ble_eq_true rfl⟩) (g_rModel C hW_55 hS_48 [.int 3]) rfl rfl hl_61.1 rfl (lv_room (Nat.le_of_ble_eq_true rfl)) dX8_command_126 ⟨Nat.zero_le _, Nat.zero_le _⟩) hS_48 (fun r_63 Y_64 H_65 locs_66 hW_67 hS_68 h_62 => ?_)
      replace h_62 : r_63 = (bhM (X.1 22) L 3 p_50).1 ∧ Y_64 = setRow (setRow (setRow (setRow (setRow X 15 w_54) 24 w_10) 16 (X.1 16)) 20 (X.1 20)) 15 (ps w_54 (bhM (X.1 22) L 3 p_50).2.1 (bhM (X.1 22) L 3 p_50).2.2) := h_62
      obtain ⟨n_69, p_70, c_71, hd_72⟩ : ∃ x9 y9 z9, bhM (X.1 22) L 3 p_50 = (x9, y9, z9) := ⟨_, _, _, rfl⟩
      rw [hd_72] at h_62
      obtain ⟨h_73, h_62⟩ := h_62
      replace h_73 : r_63 = n_69 := h_73
      subst h_73
      have hp_70 : p_70 ≤ L := bhM_le (show p_50 ≤ L by omega) hd_72
      rcases bhM_b hd_72 with hbc_71 | hbc_71
      · rw [hbc_71] at hd_72 h_62
        replace h_62 : Y_64 = setRow (setRow (setRow (setRow (setRow X 15 w_54) 24 w_10) 16 (X.1 16)) 20 (X.1 20)) 15 (ps w_54 p_70 0) := h_62
        replace h_62 : Y_64 = setRow (setRow (setRow (setRow (setRow X 15 w_54) 24 w_10) 16 (X.1 16)) 20 (X.1 20)) 15 (ps w_54 p_70 0) := h_62
        obtain ⟨w_74, ew_74⟩ : ∃ Z9, Z9 = ps w_54 p_70 0 := ⟨_, rfl⟩
        have qqw_74 : Y_64 = setRow (setRow (setRow (setRow (setRow X 15 w_54) 24 w_10) 16 (X.1 16)) 20 (X.1 20)) 15 w_74 := by rw [h_62, ew_74]
        have hW_75 : Wd G (setRow (setRow (setRow (setRow X 15 w_74) 24 w_10) 16 (X.1 16)) 20 (X.1 20)) H_65 := Wd.cast ((qqw_74).trans (congrArg (fun Z9 => Z9) (sr_in (by decide) (sr_in (by decide) (sr_in (by decide) sr_out))))) hW_67
        have kn_76 : w_74 (7) = nI L := by rw [ew_74]; exact (ps_o (by decide) (by decide)).trans kn_56
        have kn_77 : w_74 (10) = 1 := by rw [ew_74]; exact (ps_o (by decide) (by decide)).trans kn_57
        have kn_78 : w_74 (6) = nI p_70 := by rw [ew_74]; exact ps_6
        have kn_79 : w_74 (9) = 0 := by rw [ew_74]; exact ps_9
        refine lv_istore_n (lv' := [(3, .int r_63), (2, .int r_43), (4, .int r_23), (1, .int 3), (0, .ref (ad G 723))]) hx hb dX8_command_129 rfl hl_61 (by decide) rfl (fun ls_80 hl_81 => ?_)
        refine lv_aload_n hx hb dX8_command_130 rfl (lv_at hl_81 4 rfl) ?_
        refine gM_isWrong C hW_75 (hwc hwX8) (mc qw_1496) dX8_command_131 ?_
        refine g_top (y := w_74 (9)) (congrFun (rd_in (by decide) (rd_in (by decide) (rd_in (by decide) rd_out))) _) ?_
        refine g_top (y := 0) kn_79 ?_
        refine lv_if_ne (tgt := 144) hx hb dX8_command_134 (by decide) (fun h9 => absurd h9 (by decide)) (fun _ => ?_)
        refine lv_aload_n hx hb dX8_command_137 rfl (lv_at hl_81 4 rfl) ?_
        refine gM_isDoing C hW_75 (hwc hwX8) (mc qw_1497) dX8_command_138 ?_
        refine g_top (y := w_74 (10)) (congrFun (rd_in (by decide) (rd_in (by decide) (rd_in (by decide) rd_out))) _) ?_
        refine g_top (y := 1) kn_77 ?_
        refine lv_if_ne (tgt := 145) hx hb dX8_command_141 (by decide) (fun _ => ?_) (fun h9 => absurd h9 (by decide))
        refine lv_aload_n hx hb dX8_command_145 rfl (lv_at hl_81 4 rfl) ?_
        refine lv_iload_n hx hb dX8_command_146 rfl (lv_at hl_81 3 rfl) ?_
        refine lv_iload hx hb dX8_command_147 (lv_at hl_81 2 rfl) ?_
        refine lv_iload_n hx hb dX8_command_149 rfl (lv_at hl_81 1 rfl) ?_
        refine lv_iload_n hx hb dX8_command_150 rfl (lv_at hl_81 0 rfl) ?_
        refine g_calli (va_runV (As := [.int 3, .int r_23, .int r_43, .int r_63]) (rest := []) C.1 (cX8_does3_ok l G (setRow (setRow (setRow (setRow X 15 w_74) 24 w_10) 16 (X.1 16)) 20 (X.1 20)) r_23 r_43 r_63 hm) (cwV 4 C.1.2.2.2.2 (gV qw_1919 qw_1921 qw_69 qw_81 qw_1922) rfl rfl rfl (by decide +kernel) ⟨Nat.le_of_ble_eq_true rfl, Nat.le_of_ble_eq_true rfl⟩) (g_rModel C hW_75 hS_68 [.int 3, .int r_23, .int r_43, .int r_63]) rfl rfl hl_81.1 rfl (lv_room (Nat.le_of_ble_eq_true rfl)) dX8_command_151 ⟨Nat.zero_le _, Nat.zero_le _⟩) hS_68 (fun r_83 Y_84 H_85 locs_86 hW_87 hS_88 h_82 => ?_)
        replace h_82 : Y_84 = setRow (setRow (setRow (setRow (setRow (setRow (setRow X 15 w_74) 24 w_10) 16 (X.1 16)) 20 (X.1 20)) 15 ((doM 3 w_74 (X.1 16) (X.1 20) (X.1 21) r_23 r_43 r_63).1)) 16 ((doM 3 w_74 (X.1 16) (X.1 20) (X.1 21) r_23 r_43 r_63).2.1)) 20 ((doM 3 w_74 (X.1 16) (X.1 20) (X.1 21) r_23 r_43 r_63).2.2) := h_82
        obtain ⟨w_89, ew_89⟩ : ∃ Z9, Z9 = (doM 3 w_74 (X.1 16) (X.1 20) (X.1 21) r_23 r_43 r_63).1 := ⟨_, rfl⟩
        obtain ⟨w_90, ew_90⟩ : ∃ Z9, Z9 = (doM 3 w_74 (X.1 16) (X.1 20) (X.1 21) r_23 r_43 r_63).2.1 := ⟨_, rfl⟩
        obtain ⟨w_91, ew_91⟩ : ∃ Z9, Z9 = (doM 3 w_74 (X.1 16) (X.1 20) (X.1 21) r_23 r_43 r_63).2.2 := ⟨_, rfl⟩
        have qqw_89 : Y_84 = setRow (setRow (setRow (setRow (setRow (setRow (setRow X 15 w_74) 24 w_10) 16 (X.1 16)) 20 (X.1 20)) 15 w_89) 16 w_90) 20 w_91 := by rw [h_82, ew_89, ew_90, ew_91]
        have hW_92 : Wd G (setRow (setRow (setRow (setRow X 15 w_89) 24 w_10) 16 w_90) 20 w_91) H_85 := Wd.cast ((((qqw_89).trans (congrArg (fun Z9 => setRow (setRow (Z9) 16 w_90) 20 w_91) (sr_in (by decide) (sr_in (by decide) (sr_in (by decide) sr_out))))).trans (congrArg (fun Z9 => setRow (Z9) 20 w_91) (sr_in (by decide) sr_out))).trans (congrArg (fun Z9 => Z9) sr_out)) hW_87
        refine lv_istore (lv' := [(5, .int r_83), (3, .int r_63), (2, .int r_43), (4, .int r_23), (1, .int 3), (0, .ref (ad G 723))]) hx hb dX8_command_154 hl_81 (by decide) rfl (fun ls_93 hl_94 => ?_)
        exact g_vret C hr hlk hW_92 hS_88 dX8_command_156 (by subst ew_91; subst ew_90; subst ew_89; subst ew_74; subst ew_54; subst ew_34; subst ew_10; subst ew_9; simp only [ca3, hd_32, hd_52, hd_72, if_true, if_false, ps_ps, Nat.one_ne_zero])
      · rw [hbc_71] at hd_72 h_62
        replace h_62 : Y_64 = setRow (setRow (setRow (setRow (setRow X 15 w_54) 24 w_10) 16 (X.1 16)) 20 (X.1 20)) 15 (ps w_54 p_70 1) := h_62
        replace h_62 : Y_64 = setRow (setRow (setRow (setRow (setRow X 15 w_54) 24 w_10) 16 (X.1 16)) 20 (X.1 20)) 15 (ps w_54 p_70 1) := h_62
        obtain ⟨w_95, ew_95⟩ : ∃ Z9, Z9 = ps w_54 p_70 1 := ⟨_, rfl⟩
        have qqw_95 : Y_64 = setRow (setRow (setRow (setRow (setRow X 15 w_54) 24 w_10) 16 (X.1 16)) 20 (X.1 20)) 15 w_95 := by rw [h_62, ew_95]
        have hW_96 : Wd G (setRow (setRow (setRow (setRow X 15 w_95) 24 w_10) 16 (X.1 16)) 20 (X.1 20)) H_65 := Wd.cast ((qqw_95).trans (congrArg (fun Z9 => Z9) (sr_in (by decide) (sr_in (by decide) (sr_in (by decide) sr_out))))) hW_67
        have kn_97 : w_95 (7) = nI L := by rw [ew_95]; exact (ps_o (by decide) (by decide)).trans kn_56
        have kn_98 : w_95 (10) = 1 := by rw [ew_95]; exact (ps_o (by decide) (by decide)).trans kn_57
        have kn_99 : w_95 (6) = nI p_70 := by rw [ew_95]; exact ps_6
        have kn_100 : w_95 (9) = 1 := by rw [ew_95]; exact ps_9
        refine lv_istore_n (lv' := [(3, .int r_63), (2, .int r_43), (4, .int r_23), (1, .int 3), (0, .ref (ad G 723))]) hx hb dX8_command_129 rfl hl_61 (by decide) rfl (fun ls_101 hl_102 => ?_)
        refine lv_aload_n hx hb dX8_command_130 rfl (lv_at hl_102 4 rfl) ?_
        refine gM_isWrong C hW_96 (hwc hwX8) (mc qw_1496) dX8_command_131 ?_
        refine g_top (y := w_95 (9)) (congrFun (rd_in (by decide) (rd_in (by decide) (rd_in (by decide) rd_out))) _) ?_
        refine g_top (y := 1) kn_100 ?_
        refine lv_if_ne (tgt := 144) hx hb dX8_command_134 (by decide) (fun _ => ?_) (fun h9 => absurd h9 (by decide))
        exact g_vret C hr hlk hW_96 hS_68 dX8_command_144 (absurd hok (by simp only [ca3, hd_32, hd_52, hd_72, if_true, if_false, ps_ps, Nat.one_ne_zero, not_false_eq_true]))
    · rw [hbc_51] at hd_52 h_42
      replace h_42 : Y_44 = setRow (setRow (setRow (setRow (setRow X 15 w_34) 24 w_10) 16 (X.1 16)) 20 (X.1 20)) 15 (ps w_34 p_50 1) := h_42
      replace h_42 : Y_44 = setRow (setRow (setRow (setRow (setRow X 15 w_34) 24 w_10) 16 (X.1 16)) 20 (X.1 20)) 15 (ps w_34 p_50 1) := h_42
      obtain ⟨w_103, ew_103⟩ : ∃ Z9, Z9 = ps w_34 p_50 1 := ⟨_, rfl⟩
      have qqw_103 : Y_44 = setRow (setRow (setRow (setRow (setRow X 15 w_34) 24 w_10) 16 (X.1 16)) 20 (X.1 20)) 15 w_103 := by rw [h_42, ew_103]
      have hW_104 : Wd G (setRow (setRow (setRow (setRow X 15 w_103) 24 w_10) 16 (X.1 16)) 20 (X.1 20)) H_45 := Wd.cast ((qqw_103).trans (congrArg (fun Z9 => Z9) (sr_in (by decide) (sr_in (by decide) (sr_in (by decide) sr_out))))) hW_47
      have kn_105 : w_103 (7) = nI L := by rw [ew_103]; exact (ps_o (by decide) (by decide)).trans kn_36
      have kn_106 : w_103 (10) = 1 := by rw [ew_103]; exact (ps_o (by decide) (by decide)).trans kn_37
      have kn_107 : w_103 (6) = nI p_50 := by rw [ew_103]; exact ps_6
      have kn_108 : w_103 (9) = 1 := by rw [ew_103]; exact ps_9
      refine lv_istore_n (lv' := [(2, .int r_43), (4, .int r_23), (3, .int 0), (1, .int 3), (0, .ref (ad G 723))]) hx hb dX8_command_111 rfl hl_41 (by decide) rfl (fun ls_109 hl_110 => ?_)
      refine lv_iload_n hx hb dX8_command_112 rfl (lv_at hl_110 3 rfl) ?_
      refine lv_iconst (v := 3) hx hb dX8_command_113 (by decide) ?_
      refine lv_icmp_ne (tgt := 130) hx hb dX8_command_114 (by decide) (fun h9 => absurd h9 (by decide)) (fun _ => ?_)
      refine lv_aload_n hx hb dX8_command_117 rfl (lv_at hl_110 4 rfl) ?_
      refine gM_isWrong C hW_104 (hwc hwX8) (mc qw_1496) dX8_command_118 ?_
      refine g_top (y := w_103 (9)) (congrFun (rd_in (by decide) (rd_in (by decide) (rd_in (by decide) rd_out))) _) ?_
      refine g_top (y := 1) kn_108 ?_
      refine lv_if_ne (tgt := 130) hx hb dX8_command_121 (by decide) (fun _ => ?_) (fun h9 => absurd h9 (by decide))
      refine lv_aload_n hx hb dX8_command_130 rfl (lv_at hl_110 4 rfl) ?_
      refine gM_isWrong C hW_104 (hwc hwX8) (mc qw_1496) dX8_command_131 ?_
      refine g_top (y := w_103 (9)) (congrFun (rd_in (by decide) (rd_in (by decide) (rd_in (by decide) rd_out))) _) ?_
      refine g_top (y := 1) kn_108 ?_
      refine lv_if_ne (tgt := 144) hx hb dX8_command_134 (by decide) (fun _ => ?_) (fun h9 => absurd h9 (by decide))
      exact g_vret C hr hlk hW_104 hS_48 dX8_command_144 (absurd hok (by simp only [ca3, hd_32, hd_52, if_true, if_false, ps_ps, Nat.one_ne_zero, not_false_eq_true]))
  · rw [hbc_31] at hd_32 h_22
    replace h_22 : Y_24 = setRow (setRow (setRow (setRow (setRow X 15 w_9) 24 w_10) 16 (X.1 16)) 20 (X.1 20)) 15 (ps w_9 p_30 1) := h_22
    replace h_22 : Y_24 = setRow (setRow (setRow (setRow (setRow X 15 w_9) 24 w_10) 16 (X.1 16)) 20 (X.1 20)) 15 (ps w_9 p_30 1) := h_22
    obtain ⟨w_111, ew_111⟩ : ∃ Z9, Z9 = ps w_9 p_30 1 := ⟨_, rfl⟩
    have qqw_111 : Y_24 = setRow (setRow (setRow (setRow (setRow X 15 w_9) 24 w_10) 16 (X.1 16)) 20 (X.1 20)) 15 w_111 := by rw [h_22, ew_111]
    have hW_112 : Wd G (setRow (setRow (setRow (setRow X 15 w_111) 24 w_10) 16 (X.1 16)) 20 (X.1 20)) H_25 := Wd.cast ((qqw_111).trans (congrArg (fun Z9 => Z9) (sr_in (by decide) (sr_in (by decide) (sr_in (by decide) sr_out))))) hW_27
    have kn_113 : w_111 (7) = nI L := by rw [ew_111]; exact (ps_o (by decide) (by decide)).trans kn_12
    have kn_114 : w_111 (10) = 1 := by rw [ew_111]; exact (ps_o (by decide) (by decide)).trans kn_13
    have kn_115 : w_111 (6) = nI p_30 := by rw [ew_111]; exact ps_6
    have kn_116 : w_111 (9) = 1 := by rw [ew_111]; exact ps_9
    refine lv_istore (lv' := [(4, .int r_23), (3, .int 0), (2, .int 0), (1, .int 3), (0, .ref (ad G 723))]) hx hb dX8_command_37 hl_21 (by decide) rfl (fun ls_117 hl_118 => ?_)
    refine lv_iload_n hx hb dX8_command_39 rfl (lv_at hl_118 3 rfl) ?_
    refine lv_if_ne (tgt := 55) hx hb dX8_command_40 (by decide) (fun _ => ?_) (fun h9 => absurd h9 (by decide))
    refine lv_iload_n hx hb dX8_command_55 rfl (lv_at hl_118 3 rfl) ?_
    refine lv_if_ne (tgt := 72) hx hb dX8_command_56 (by decide) (fun _ => ?_) (fun h9 => absurd h9 (by decide))
    refine lv_iload_n hx hb dX8_command_72 rfl (lv_at hl_118 3 rfl) ?_
    refine lv_iconst (v := 1) hx hb dX8_command_73 (by decide) ?_
    refine lv_icmp_eq (tgt := 99) hx hb dX8_command_74 (by decide) (fun h9 => absurd h9 (by decide)) (fun _ => ?_)
    refine lv_iload_n hx hb dX8_command_77 rfl (lv_at hl_118 3 rfl) ?_
    refine lv_iconst (v := 3) hx hb dX8_command_78 (by decide) ?_
    refine lv_icmp_eq (tgt := 99) hx hb dX8_command_79 (by decide) (fun _ => ?_) (fun h9 => absurd h9 (by decide))
    refine lv_aload_n hx hb dX8_command_99 rfl (lv_at hl_118 4 rfl) ?_
    refine gM_isWrong C hW_112 (hwc hwX8) (mc qw_1496) dX8_command_100 ?_
    refine g_top (y := w_111 (9)) (congrFun (rd_in (by decide) (rd_in (by decide) (rd_in (by decide) rd_out))) _) ?_
    refine g_top (y := 1) kn_116 ?_
    refine lv_if_ne (tgt := 112) hx hb dX8_command_103 (by decide) (fun _ => ?_) (fun h9 => absurd h9 (by decide))
    refine lv_iload_n hx hb dX8_command_112 rfl (lv_at hl_118 3 rfl) ?_
    refine lv_iconst (v := 3) hx hb dX8_command_113 (by decide) ?_
    refine lv_icmp_ne (tgt := 130) hx hb dX8_command_114 (by decide) (fun h9 => absurd h9 (by decide)) (fun _ => ?_)
    refine lv_aload_n hx hb dX8_command_117 rfl (lv_at hl_118 4 rfl) ?_
    refine gM_isWrong C hW_112 (hwc hwX8) (mc qw_1496) dX8_command_118 ?_
    refine g_top (y := w_111 (9)) (congrFun (rd_in (by decide) (rd_in (by decide) (rd_in (by decide) rd_out))) _) ?_
    refine g_top (y := 1) kn_116 ?_
    refine lv_if_ne (tgt := 130) hx hb dX8_command_121 (by decide) (fun _ => ?_) (fun h9 => absurd h9 (by decide))
    refine lv_aload_n hx hb dX8_command_130 rfl (lv_at hl_118 4 rfl) ?_
    refine gM_isWrong C hW_112 (hwc hwX8) (mc qw_1496) dX8_command_131 ?_
    refine g_top (y := w_111 (9)) (congrFun (rd_in (by decide) (rd_in (by decide) (rd_in (by decide) rd_out))) _) ?_
    refine g_top (y := 1) kn_116 ?_
    refine lv_if_ne (tgt := 144) hx hb dX8_command_134 (by decide) (fun _ => ?_) (fun h9 => absurd h9 (by decide))
    exact g_vret C hr hlk hW_112 hS_28 dX8_command_144 (absurd hok (by simp only [ca3, hd_32, if_true, if_false, ps_ps, Nat.one_ne_zero, not_false_eq_true]))

set_option maxHeartbeats 4000000 in
set_option maxRecDepth 100000 in
theorem cX8_command14_ok (l : Launch) (G : GT) (X : St) (pp L : Nat) (hp : pp ≤ L) (hL : L ≤ 60) (e6 : X.1 15 6 = nI pp) (e7 : X.1 15 7 = nI L) (e9 : X.1 15 9 = 0) (hwd : WdOk (X.1 25) (X.1 26)) (e10 : X.1 15 10 = 1) (p1 : Nat) (hp1 : p1 ≤ L) (z1 : Nat → Int32) (hw9 : wdM (X.1 22) L pp (X.1 24) = (4, p1, 0, z1)) (hm : MInv (X.1 16)) (hok : (caA (X.1 22) L p1).2.2.2.2 = 0) : MetV l G yX8_command (wsG yX8_command cX8_command 6 none) (rmz 5 114) [.ref (ad G 723)] X (fun Y => Y = setRow (setRow (setRow (setRow X 15 (doM 4 (ps (X.1 15) (caA (X.1 22) L p1).2.2.2.1 0) (X.1 16) (X.1 20) (X.1 21) (caA (X.1 22) L p1).1 (caA (X.1 22) L p1).2.1 (caA (X.1 22) L p1).2.2.1).1) 24 z1) 16 (doM 4 (ps (X.1 15) (caA (X.1 22) L p1).2.2.2.1 0) (X.1 16) (X.1 20) (X.1 21) (caA (X.1 22) L p1).1 (caA (X.1 22) L p1).2.1 (caA (X.1 22) L p1).2.2.1).2.1) 20 (doM 4 (ps (X.1 15) (caA (X.1 22) L p1).2.2.2.1 0) (X.1 16) (X.1 20) (X.1 21) (caA (X.1 22) L p1).1 (caA (X.1 22) L p1).2.1 (caA (X.1 22) L p1).2.2.1).2.2) := by
  refine g_met (cc := cX8_command) (maxL := 6) (ret := none) (by decide) rfl (Nat.le_of_ble_eq_true rfl) ?_
  intro p e s m below meth c ls C hr hlk hnm hW hl
  have hx := C.1.1
  have hb := C.1.2.1
  have hS : va_S (Ab G) s.heap s.heap [] := va_S.rf
  have hl : lv_has ls 6 [(0, .ref (ad G 723))] := hl
  have hW : Wd G (setRow (setRow (setRow (setRow (X) 15 (X.1 15)) 24 (X.1 24)) 16 (X.1 16)) 20 (X.1 20)) s.heap := Wd.cast (((((sr_same (X := setRow (setRow (setRow (X) 15 (X.1 15)) 24 (X.1 24)) 16 (X.1 16)) (r := 20) rfl).trans (sr_same (X := setRow (setRow (X) 15 (X.1 15)) 24 (X.1 24)) (r := 16) rfl)).trans (sr_same (X := setRow (X) 15 (X.1 15)) (r := 24) rfl)).trans (sr_same (X := X) (r := 15) rfl))).symm hW
  refine lv_aload_n hx hb dX8_command_0 rfl (lv_at hl 0 rfl) ?_
  refine g_calli (va_runV (As := []) (rest := []) C.1 (cX8_word_ok l G (setRow (setRow (setRow (setRow X 15 (X.1 15)) 24 (X.1 24)) 16 (X.1 16)) 20 (X.1 20)) pp L (show pp ≤ L by omega) hL e6 e7 e9 hwd) (cwV 0 C.1.2.2.2.2 (gV qw_1895 qw_1897 qw_63 qw_81 qw_1898) rfl rfl rfl (by decide +kernel) ⟨Nat.le_of_ble_eq_true rfl, Nat.le_of_ble_eq_true rfl⟩) (g_rModel C hW hS []) rfl rfl hl.1 rfl (lv_room (Nat.le_of_ble_eq_true rfl)) dX8_command_1 ⟨Nat.zero_le _, Nat.zero_le _⟩) hS (fun r_2 Y_3 H_4 locs_5 hW_6 hS_7 h_1 => ?_)
  replace h_1 : r_2 = (wdM (X.1 22) L pp (X.1 24)).1 ∧ Y_3 = setRow (setRow (setRow (setRow (setRow (setRow X 15 (X.1 15)) 24 (X.1 24)) 16 (X.1 16)) 20 (X.1 20)) 15 (ps (X.1 15) (wdM (X.1 22) L pp (X.1 24)).2.1 (wdM (X.1 22) L pp (X.1 24)).2.2.1)) 24 (wdM (X.1 22) L pp (X.1 24)).2.2.2 := h_1
  rw [hw9] at h_1
  obtain ⟨h_8, h_1⟩ := h_1
  replace h_8 : r_2 = 4 := h_8
  subst h_8
  replace h_1 : Y_3 = setRow (setRow (setRow (setRow (setRow (setRow X 15 (X.1 15)) 24 (X.1 24)) 16 (X.1 16)) 20 (X.1 20)) 15 (ps (X.1 15) p1 0)) 24 z1 := h_1
  replace h_1 : Y_3 = setRow (setRow (setRow (setRow (setRow (setRow X 15 (X.1 15)) 24 (X.1 24)) 16 (X.1 16)) 20 (X.1 20)) 15 (ps (X.1 15) p1 0)) 24 z1 := h_1
  obtain ⟨w_9, ew_9⟩ : ∃ Z9, Z9 = ps (X.1 15) p1 0 := ⟨_, rfl⟩
  obtain ⟨w_10, ew_10⟩ : ∃ Z9, Z9 = z1 := ⟨_, rfl⟩
  have qqw_9 : Y_3 = setRow (setRow (setRow (setRow (setRow (setRow X 15 (X.1 15)) 24 (X.1 24)) 16 (X.1 16)) 20 (X.1 20)) 15 w_9) 24 w_10 := by rw [h_1, ew_9, ew_10]
  have hW_11 : Wd G (setRow (setRow (setRow (setRow X 15 w_9) 24 w_10) 16 (X.1 16)) 20 (X.1 20)) H_4 := Wd.cast (((qqw_9).trans (congrArg (fun Z9 => setRow (Z9) 24 w_10) (sr_in (by decide) (sr_in (by decide) (sr_in (by decide) sr_out))))).trans (congrArg (fun Z9 => Z9) (sr_in (by decide) (sr_in (by decide) sr_out)))) hW_6
  have kn_12 : w_9 (7) = nI L := by rw [ew_9]; exact (ps_o (by decide) (by decide)).trans e7
  have kn_13 : w_9 (10) = 1 := by rw [ew_9]; exact (ps_o (by decide) (by decide)).trans e10
  have kn_14 : w_9 (6) = nI p1 := by rw [ew_9]; exact ps_6
  have kn_15 : w_9 (9) = 0 := by rw [ew_9]; exact ps_9
  refine lv_istore_n (lv' := [(1, .int 4), (0, .ref (ad G 723))]) hx hb dX8_command_4 rfl hl (by decide) rfl (fun ls_16 hl_17 => ?_)
  refine lv_iconst (v := 0) hx hb dX8_command_5 (by decide) ?_
  refine lv_istore_n (lv' := [(2, .int 0), (1, .int 4), (0, .ref (ad G 723))]) hx hb dX8_command_6 rfl hl_17 (by decide) rfl (fun ls_18 hl_19 => ?_)
  refine lv_iconst (v := 0) hx hb dX8_command_7 (by decide) ?_
  refine lv_istore_n (lv' := [(3, .int 0), (2, .int 0), (1, .int 4), (0, .ref (ad G 723))]) hx hb dX8_command_8 rfl hl_19 (by decide) rfl (fun ls_20 hl_21 => ?_)
  refine lv_aload_n hx hb dX8_command_9 rfl (lv_at hl_21 3 rfl) ?_
  refine gM_isWrong C hW_11 (hwc hwX8) (mc qw_1496) dX8_command_10 ?_
  refine g_top (y := w_9 (9)) (congrFun (rd_in (by decide) (rd_in (by decide) (rd_in (by decide) rd_out))) _) ?_
  refine g_top (y := 0) kn_15 ?_
  refine lv_if_eq (tgt := 17) hx hb dX8_command_13 (by decide) (fun _ => ?_) (fun h9 => absurd h9 (by decide))
  refine lv_aload_n hx hb dX8_command_17 rfl (lv_at hl_21 3 rfl) ?_
  refine lv_iload_n hx hb dX8_command_18 rfl (lv_at hl_21 2 rfl) ?_
  refine lv_iconst (v := 5) hx hb dX8_command_19 (by decide) ?_
  refine lv_icmp_eq (tgt := 29) hx hb dX8_command_20 (by decide) (fun h9 => absurd h9 (by decide)) (fun _ => ?_)
  refine lv_iload_n hx hb dX8_command_23 rfl (lv_at hl_21 2 rfl) ?_
  refine lv_bipush (v := 8) hx hb dX8_command_24 (by decide) ?_
  refine lv_icmp_lt (tgt := 33) hx hb dX8_command_26 (by decide) (fun _ => ?_) (fun h9 => absurd h9 (by decide))
  refine lv_iconst (v := 1) hx hb dX8_command_33 (by decide) ?_
  refine g_calli (va_runV (As := [.int 1]) (rest := []) C.1 (cX8_digits_ok l G (setRow (setRow (setRow (setRow X 15 w_9) 24 w_10) 16 (X.1 16)) 20 (X.1 20)) p1 L (show p1 ≤ L by omega) hL kn_14 kn_12 kn_15 1 (by omega)) (cwV 1 C.1.2.2.2.2 (gV qw_1903 qw_1905 qw_65 qw_81 qw_1906) rfl rfl rfl (by decide +kernel) ⟨Nat.le_of_ble_eq_true rfl, Nat.le_of_ble_eq_true rfl⟩) (g_rModel C hW_11 hS_7 [.int 1]) rfl rfl hl_21.1 rfl (lv_room (Nat.le_of_ble_eq_true rfl)) dX8_command_34 ⟨Nat.zero_le _, Nat.zero_le _⟩) hS_7 (fun r_23 Y_24 H_25 locs_26 hW_27 hS_28 h_22 => ?_)
  replace h_22 : r_23 = (dgM (X.1 22) L 1 p1).1 ∧ Y_24 = setRow (setRow (setRow (setRow (setRow X 15 w_9) 24 w_10) 16 (X.1 16)) 20 (X.1 20)) 15 (ps w_9 (dgM (X.1 22) L 1 p1).2.1 (dgM (X.1 22) L 1 p1).2.2) := h_22
  obtain ⟨n_29, p_30, c_31, hd_32⟩ : ∃ x9 y9 z9, dgM (X.1 22) L 1 p1 = (x9, y9, z9) := ⟨_, _, _, rfl⟩
  rw [hd_32] at h_22
  obtain ⟨h_33, h_22⟩ := h_22
  replace h_33 : r_23 = n_29 := h_33
  subst h_33
  have hp_30 : p_30 ≤ L := dgM_le (show p1 ≤ L by omega) hd_32
  rcases dgM_b hd_32 with hbc_31 | hbc_31
  · rw [hbc_31] at hd_32 h_22
    replace h_22 : Y_24 = setRow (setRow (setRow (setRow (setRow X 15 w_9) 24 w_10) 16 (X.1 16)) 20 (X.1 20)) 15 (ps w_9 p_30 0) := h_22
    replace h_22 : Y_24 = setRow (setRow (setRow (setRow (setRow X 15 w_9) 24 w_10) 16 (X.1 16)) 20 (X.1 20)) 15 (ps w_9 p_30 0) := h_22
    obtain ⟨w_34, ew_34⟩ : ∃ Z9, Z9 = ps w_9 p_30 0 := ⟨_, rfl⟩
    have qqw_34 : Y_24 = setRow (setRow (setRow (setRow (setRow X 15 w_9) 24 w_10) 16 (X.1 16)) 20 (X.1 20)) 15 w_34 := by rw [h_22, ew_34]
    have hW_35 : Wd G (setRow (setRow (setRow (setRow X 15 w_34) 24 w_10) 16 (X.1 16)) 20 (X.1 20)) H_25 := Wd.cast ((qqw_34).trans (congrArg (fun Z9 => Z9) (sr_in (by decide) (sr_in (by decide) (sr_in (by decide) sr_out))))) hW_27
    have kn_36 : w_34 (7) = nI L := by rw [ew_34]; exact (ps_o (by decide) (by decide)).trans kn_12
    have kn_37 : w_34 (10) = 1 := by rw [ew_34]; exact (ps_o (by decide) (by decide)).trans kn_13
    have kn_38 : w_34 (6) = nI p_30 := by rw [ew_34]; exact ps_6
    have kn_39 : w_34 (9) = 0 := by rw [ew_34]; exact ps_9
    refine lv_istore (lv' := [(4, .int r_23), (3, .int 0), (2, .int 0), (1, .int 4), (0, .ref (ad G 723))]) hx hb dX8_command_37 hl_21 (by decide) rfl (fun ls_40 hl_41 => ?_)
    refine lv_iload_n hx hb dX8_command_39 rfl (lv_at hl_41 3 rfl) ?_
    refine lv_if_ne (tgt := 55) hx hb dX8_command_40 (by decide) (fun _ => ?_) (fun h9 => absurd h9 (by decide))
    refine lv_iload_n hx hb dX8_command_55 rfl (lv_at hl_41 3 rfl) ?_
    refine lv_if_ne (tgt := 72) hx hb dX8_command_56 (by decide) (fun _ => ?_) (fun h9 => absurd h9 (by decide))
    refine lv_iload_n hx hb dX8_command_72 rfl (lv_at hl_41 3 rfl) ?_
    refine lv_iconst (v := 1) hx hb dX8_command_73 (by decide) ?_
    refine lv_icmp_eq (tgt := 99) hx hb dX8_command_74 (by decide) (fun h9 => absurd h9 (by decide)) (fun _ => ?_)
    refine lv_iload_n hx hb dX8_command_77 rfl (lv_at hl_41 3 rfl) ?_
    refine lv_iconst (v := 3) hx hb dX8_command_78 (by decide) ?_
    refine lv_icmp_eq (tgt := 99) hx hb dX8_command_79 (by decide) (fun h9 => absurd h9 (by decide)) (fun _ => ?_)
    refine lv_iload_n hx hb dX8_command_82 rfl (lv_at hl_41 3 rfl) ?_
    refine lv_iconst (v := 4) hx hb dX8_command_83 (by decide) ?_
    refine lv_icmp_eq (tgt := 99) hx hb dX8_command_84 (by decide) (fun _ => ?_) (fun h9 => absurd h9 (by decide))
    refine lv_aload_n hx hb dX8_command_99 rfl (lv_at hl_41 4 rfl) ?_
    refine gM_isWrong C hW_35 (hwc hwX8) (mc qw_1496) dX8_command_100 ?_
    refine g_top (y := w_34 (9)) (congrFun (rd_in (by decide) (rd_in (by decide) (rd_in (by decide) rd_out))) _) ?_
    refine g_top (y := 0) kn_39 ?_
    refine lv_if_ne (tgt := 112) hx hb dX8_command_103 (by decide) (fun h9 => absurd h9 (by decide)) (fun _ => ?_)
    refine lv_aload_n hx hb dX8_command_106 rfl (lv_at hl_41 4 rfl) ?_
    refine lv_iconst (v := 1) hx hb dX8_command_107 (by decide) ?_
    refine g_calli (va_runV (As := [.int 1]) (rest := []) C.1 (cX8_behind_ok l G (setRow (setRow (setRow (setRow X 15 w_34) 24 w_10) 16 (X.1 16)) 20 (X.1 20)) p_30 L (show p_30 ≤ L by omega) hL kn_38 kn_36 kn_39 1 (by omega)) (cwV 1 C.1.2.2.2.2 (gV qw_1915 qw_1917 qw_68 qw_81 qw_1918) rfl rfl rfl (by decide +kernel) ⟨Nat.le_of_ble_eq_true rfl, Nat.le_of_ble_eq_true rfl⟩) (g_rModel C hW_35 hS_28 [.int 1]) rfl rfl hl_41.1 rfl (lv_room (Nat.le_of_ble_eq_true rfl)) dX8_command_108 ⟨Nat.zero_le _, Nat.zero_le _⟩) hS_28 (fun r_43 Y_44 H_45 locs_46 hW_47 hS_48 h_42 => ?_)
    replace h_42 : r_43 = (bhM (X.1 22) L 1 p_30).1 ∧ Y_44 = setRow (setRow (setRow (setRow (setRow X 15 w_34) 24 w_10) 16 (X.1 16)) 20 (X.1 20)) 15 (ps w_34 (bhM (X.1 22) L 1 p_30).2.1 (bhM (X.1 22) L 1 p_30).2.2) := h_42
    obtain ⟨n_49, p_50, c_51, hd_52⟩ : ∃ x9 y9 z9, bhM (X.1 22) L 1 p_30 = (x9, y9, z9) := ⟨_, _, _, rfl⟩
    rw [hd_52] at h_42
    obtain ⟨h_53, h_42⟩ := h_42
    replace h_53 : r_43 = n_49 := h_53
    subst h_53
    have hp_50 : p_50 ≤ L := bhM_le (show p_30 ≤ L by omega) hd_52
    rcases bhM_b hd_52 with hbc_51 | hbc_51
    · rw [hbc_51] at hd_52 h_42
      replace h_42 : Y_44 = setRow (setRow (setRow (setRow (setRow X 15 w_34) 24 w_10) 16 (X.1 16)) 20 (X.1 20)) 15 (ps w_34 p_50 0) := h_42
      replace h_42 : Y_44 = setRow (setRow (setRow (setRow (setRow X 15 w_34) 24 w_10) 16 (X.1 16)) 20 (X.1 20)) 15 (ps w_34 p_50 0) := h_42
      obtain ⟨w_54, ew_54⟩ : ∃ Z9, Z9 = ps w_34 p_50 0 := ⟨_, rfl⟩
      have qqw_54 : Y_44 = setRow (setRow (setRow (setRow (setRow X 15 w_34) 24 w_10) 16 (X.1 16)) 20 (X.1 20)) 15 w_54 := by rw [h_42, ew_54]
      have hW_55 : Wd G (setRow (setRow (setRow (setRow X 15 w_54) 24 w_10) 16 (X.1 16)) 20 (X.1 20)) H_45 := Wd.cast ((qqw_54).trans (congrArg (fun Z9 => Z9) (sr_in (by decide) (sr_in (by decide) (sr_in (by decide) sr_out))))) hW_47
      have kn_56 : w_54 (7) = nI L := by rw [ew_54]; exact (ps_o (by decide) (by decide)).trans kn_36
      have kn_57 : w_54 (10) = 1 := by rw [ew_54]; exact (ps_o (by decide) (by decide)).trans kn_37
      have kn_58 : w_54 (6) = nI p_50 := by rw [ew_54]; exact ps_6
      have kn_59 : w_54 (9) = 0 := by rw [ew_54]; exact ps_9
      refine lv_istore_n (lv' := [(2, .int r_43), (4, .int r_23), (3, .int 0), (1, .int 4), (0, .ref (ad G 723))]) hx hb dX8_command_111 rfl hl_41 (by decide) rfl (fun ls_60 hl_61 => ?_)
      refine lv_iload_n hx hb dX8_command_112 rfl (lv_at hl_61 3 rfl) ?_
      refine lv_iconst (v := 3) hx hb dX8_command_113 (by decide) ?_
      refine lv_icmp_ne (tgt := 130) hx hb dX8_command_114 (by decide) (fun _ => ?_) (fun h9 => absurd h9 (by decide))
      refine lv_aload_n hx hb dX8_command_130 rfl (lv_at hl_61 4 rfl) ?_
      refine gM_isWrong C hW_55 (hwc hwX8) (mc qw_1496) dX8_command_131 ?_
      refine g_top (y := w_54 (9)) (congrFun (rd_in (by decide) (rd_in (by decide) (rd_in (by decide) rd_out))) _) ?_
      refine g_top (y := 0) kn_59 ?_
      refine lv_if_ne (tgt := 144) hx hb dX8_command_134 (by decide) (fun h9 => absurd h9 (by decide)) (fun _ => ?_)
      refine lv_aload_n hx hb dX8_command_137 rfl (lv_at hl_61 4 rfl) ?_
      refine gM_isDoing C hW_55 (hwc hwX8) (mc qw_1497) dX8_command_138 ?_
      refine g_top (y := w_54 (10)) (congrFun (rd_in (by decide) (rd_in (by decide) (rd_in (by decide) rd_out))) _) ?_
      refine g_top (y := 1) kn_57 ?_
      refine lv_if_ne (tgt := 145) hx hb dX8_command_141 (by decide) (fun _ => ?_) (fun h9 => absurd h9 (by decide))
      refine lv_aload_n hx hb dX8_command_145 rfl (lv_at hl_61 4 rfl) ?_
      refine lv_iload_n hx hb dX8_command_146 rfl (lv_at hl_61 3 rfl) ?_
      refine lv_iload hx hb dX8_command_147 (lv_at hl_61 1 rfl) ?_
      refine lv_iload_n hx hb dX8_command_149 rfl (lv_at hl_61 0 rfl) ?_
      refine lv_iload_n hx hb dX8_command_150 rfl (lv_at hl_61 2 rfl) ?_
      refine g_calli (va_runV (As := [.int 4, .int r_23, .int r_43, .int 0]) (rest := []) C.1 (cX8_does4_ok l G (setRow (setRow (setRow (setRow X 15 w_54) 24 w_10) 16 (X.1 16)) 20 (X.1 20)) r_23 r_43 0 hm) (cwV 4 C.1.2.2.2.2 (gV qw_1919 qw_1921 qw_69 qw_81 qw_1922) rfl rfl rfl (by decide +kernel) ⟨Nat.le_of_ble_eq_true rfl, Nat.le_of_ble_eq_true rfl⟩) (g_rModel C hW_55 hS_48 [.int 4, .int r_23, .int r_43, .int 0]) rfl rfl hl_61.1 rfl (lv_room (Nat.le_of_ble_eq_true rfl)) dX8_command_151 ⟨Nat.zero_le _, Nat.zero_le _⟩) hS_48 (fun r_63 Y_64 H_65 locs_66 hW_67 hS_68 h_62 => ?_)
      replace h_62 : Y_64 = setRow (setRow (setRow (setRow (setRow (setRow (setRow X 15 w_54) 24 w_10) 16 (X.1 16)) 20 (X.1 20)) 15 ((doM 4 w_54 (X.1 16) (X.1 20) (X.1 21) r_23 r_43 0).1)) 16 ((doM 4 w_54 (X.1 16) (X.1 20) (X.1 21) r_23 r_43 0).2.1)) 20 ((doM 4 w_54 (X.1 16) (X.1 20) (X.1 21) r_23 r_43 0).2.2) := h_62
      obtain ⟨w_69, ew_69⟩ : ∃ Z9, Z9 = (doM 4 w_54 (X.1 16) (X.1 20) (X.1 21) r_23 r_43 0).1 := ⟨_, rfl⟩
      obtain ⟨w_70, ew_70⟩ : ∃ Z9, Z9 = (doM 4 w_54 (X.1 16) (X.1 20) (X.1 21) r_23 r_43 0).2.1 := ⟨_, rfl⟩
      obtain ⟨w_71, ew_71⟩ : ∃ Z9, Z9 = (doM 4 w_54 (X.1 16) (X.1 20) (X.1 21) r_23 r_43 0).2.2 := ⟨_, rfl⟩
      have qqw_69 : Y_64 = setRow (setRow (setRow (setRow (setRow (setRow (setRow X 15 w_54) 24 w_10) 16 (X.1 16)) 20 (X.1 20)) 15 w_69) 16 w_70) 20 w_71 := by rw [h_62, ew_69, ew_70, ew_71]
      have hW_72 : Wd G (setRow (setRow (setRow (setRow X 15 w_69) 24 w_10) 16 w_70) 20 w_71) H_65 := Wd.cast ((((qqw_69).trans (congrArg (fun Z9 => setRow (setRow (Z9) 16 w_70) 20 w_71) (sr_in (by decide) (sr_in (by decide) (sr_in (by decide) sr_out))))).trans (congrArg (fun Z9 => setRow (Z9) 20 w_71) (sr_in (by decide) sr_out))).trans (congrArg (fun Z9 => Z9) sr_out)) hW_67
      refine lv_istore (lv' := [(5, .int r_63), (2, .int r_43), (4, .int r_23), (3, .int 0), (1, .int 4), (0, .ref (ad G 723))]) hx hb dX8_command_154 hl_61 (by decide) rfl (fun ls_73 hl_74 => ?_)
      exact g_vret C hr hlk hW_72 hS_68 dX8_command_156 (by subst ew_71; subst ew_70; subst ew_69; subst ew_54; subst ew_34; subst ew_10; subst ew_9; simp only [caA, caB, hd_32, hd_52, if_true, if_false, ps_ps, Nat.one_ne_zero])
    · rw [hbc_51] at hd_52 h_42
      replace h_42 : Y_44 = setRow (setRow (setRow (setRow (setRow X 15 w_34) 24 w_10) 16 (X.1 16)) 20 (X.1 20)) 15 (ps w_34 p_50 1) := h_42
      replace h_42 : Y_44 = setRow (setRow (setRow (setRow (setRow X 15 w_34) 24 w_10) 16 (X.1 16)) 20 (X.1 20)) 15 (ps w_34 p_50 1) := h_42
      obtain ⟨w_75, ew_75⟩ : ∃ Z9, Z9 = ps w_34 p_50 1 := ⟨_, rfl⟩
      have qqw_75 : Y_44 = setRow (setRow (setRow (setRow (setRow X 15 w_34) 24 w_10) 16 (X.1 16)) 20 (X.1 20)) 15 w_75 := by rw [h_42, ew_75]
      have hW_76 : Wd G (setRow (setRow (setRow (setRow X 15 w_75) 24 w_10) 16 (X.1 16)) 20 (X.1 20)) H_45 := Wd.cast ((qqw_75).trans (congrArg (fun Z9 => Z9) (sr_in (by decide) (sr_in (by decide) (sr_in (by decide) sr_out))))) hW_47
      have kn_77 : w_75 (7) = nI L := by rw [ew_75]; exact (ps_o (by decide) (by decide)).trans kn_36
      have kn_78 : w_75 (10) = 1 := by rw [ew_75]; exact (ps_o (by decide) (by decide)).trans kn_37
      have kn_79 : w_75 (6) = nI p_50 := by rw [ew_75]; exact ps_6
      have kn_80 : w_75 (9) = 1 := by rw [ew_75]; exact ps_9
      refine lv_istore_n (lv' := [(2, .int r_43), (4, .int r_23), (3, .int 0), (1, .int 4), (0, .ref (ad G 723))]) hx hb dX8_command_111 rfl hl_41 (by decide) rfl (fun ls_81 hl_82 => ?_)
      refine lv_iload_n hx hb dX8_command_112 rfl (lv_at hl_82 3 rfl) ?_
      refine lv_iconst (v := 3) hx hb dX8_command_113 (by decide) ?_
      refine lv_icmp_ne (tgt := 130) hx hb dX8_command_114 (by decide) (fun _ => ?_) (fun h9 => absurd h9 (by decide))
      refine lv_aload_n hx hb dX8_command_130 rfl (lv_at hl_82 4 rfl) ?_
      refine gM_isWrong C hW_76 (hwc hwX8) (mc qw_1496) dX8_command_131 ?_
      refine g_top (y := w_75 (9)) (congrFun (rd_in (by decide) (rd_in (by decide) (rd_in (by decide) rd_out))) _) ?_
      refine g_top (y := 1) kn_80 ?_
      refine lv_if_ne (tgt := 144) hx hb dX8_command_134 (by decide) (fun _ => ?_) (fun h9 => absurd h9 (by decide))
      exact g_vret C hr hlk hW_76 hS_48 dX8_command_144 (absurd hok (by simp only [caA, caB, hd_32, hd_52, if_true, if_false, ps_ps, Nat.one_ne_zero, not_false_eq_true]))
  · rw [hbc_31] at hd_32 h_22
    replace h_22 : Y_24 = setRow (setRow (setRow (setRow (setRow X 15 w_9) 24 w_10) 16 (X.1 16)) 20 (X.1 20)) 15 (ps w_9 p_30 1) := h_22
    replace h_22 : Y_24 = setRow (setRow (setRow (setRow (setRow X 15 w_9) 24 w_10) 16 (X.1 16)) 20 (X.1 20)) 15 (ps w_9 p_30 1) := h_22
    obtain ⟨w_83, ew_83⟩ : ∃ Z9, Z9 = ps w_9 p_30 1 := ⟨_, rfl⟩
    have qqw_83 : Y_24 = setRow (setRow (setRow (setRow (setRow X 15 w_9) 24 w_10) 16 (X.1 16)) 20 (X.1 20)) 15 w_83 := by rw [h_22, ew_83]
    have hW_84 : Wd G (setRow (setRow (setRow (setRow X 15 w_83) 24 w_10) 16 (X.1 16)) 20 (X.1 20)) H_25 := Wd.cast ((qqw_83).trans (congrArg (fun Z9 => Z9) (sr_in (by decide) (sr_in (by decide) (sr_in (by decide) sr_out))))) hW_27
    have kn_85 : w_83 (7) = nI L := by rw [ew_83]; exact (ps_o (by decide) (by decide)).trans kn_12
    have kn_86 : w_83 (10) = 1 := by rw [ew_83]; exact (ps_o (by decide) (by decide)).trans kn_13
    have kn_87 : w_83 (6) = nI p_30 := by rw [ew_83]; exact ps_6
    have kn_88 : w_83 (9) = 1 := by rw [ew_83]; exact ps_9
    refine lv_istore (lv' := [(4, .int r_23), (3, .int 0), (2, .int 0), (1, .int 4), (0, .ref (ad G 723))]) hx hb dX8_command_37 hl_21 (by decide) rfl (fun ls_89 hl_90 => ?_)
    refine lv_iload_n hx hb dX8_command_39 rfl (lv_at hl_90 3 rfl) ?_
    refine lv_if_ne (tgt := 55) hx hb dX8_command_40 (by decide) (fun _ => ?_) (fun h9 => absurd h9 (by decide))
    refine lv_iload_n hx hb dX8_command_55 rfl (lv_at hl_90 3 rfl) ?_
    refine lv_if_ne (tgt := 72) hx hb dX8_command_56 (by decide) (fun _ => ?_) (fun h9 => absurd h9 (by decide))
    refine lv_iload_n hx hb dX8_command_72 rfl (lv_at hl_90 3 rfl) ?_
    refine lv_iconst (v := 1) hx hb dX8_command_73 (by decide) ?_
    refine lv_icmp_eq (tgt := 99) hx hb dX8_command_74 (by decide) (fun h9 => absurd h9 (by decide)) (fun _ => ?_)
    refine lv_iload_n hx hb dX8_command_77 rfl (lv_at hl_90 3 rfl) ?_
    refine lv_iconst (v := 3) hx hb dX8_command_78 (by decide) ?_
    refine lv_icmp_eq (tgt := 99) hx hb dX8_command_79 (by decide) (fun h9 => absurd h9 (by decide)) (fun _ => ?_)
    refine lv_iload_n hx hb dX8_command_82 rfl (lv_at hl_90 3 rfl) ?_
    refine lv_iconst (v := 4) hx hb dX8_command_83 (by decide) ?_
    refine lv_icmp_eq (tgt := 99) hx hb dX8_command_84 (by decide) (fun _ => ?_) (fun h9 => absurd h9 (by decide))
    refine lv_aload_n hx hb dX8_command_99 rfl (lv_at hl_90 4 rfl) ?_
    refine gM_isWrong C hW_84 (hwc hwX8) (mc qw_1496) dX8_command_100 ?_
    refine g_top (y := w_83 (9)) (congrFun (rd_in (by decide) (rd_in (by decide) (rd_in (by decide) rd_out))) _) ?_
    refine g_top (y := 1) kn_88 ?_
    refine lv_if_ne (tgt := 112) hx hb dX8_command_103 (by decide) (fun _ => ?_) (fun h9 => absurd h9 (by decide))
    refine lv_iload_n hx hb dX8_command_112 rfl (lv_at hl_90 3 rfl) ?_
    refine lv_iconst (v := 3) hx hb dX8_command_113 (by decide) ?_
    refine lv_icmp_ne (tgt := 130) hx hb dX8_command_114 (by decide) (fun _ => ?_) (fun h9 => absurd h9 (by decide))
    refine lv_aload_n hx hb dX8_command_130 rfl (lv_at hl_90 4 rfl) ?_
    refine gM_isWrong C hW_84 (hwc hwX8) (mc qw_1496) dX8_command_131 ?_
    refine g_top (y := w_83 (9)) (congrFun (rd_in (by decide) (rd_in (by decide) (rd_in (by decide) rd_out))) _) ?_
    refine g_top (y := 1) kn_88 ?_
    refine lv_if_ne (tgt := 144) hx hb dX8_command_134 (by decide) (fun _ => ?_) (fun h9 => absurd h9 (by decide))
    exact g_vret C hr hlk hW_84 hS_28 dX8_command_144 (absurd hok (by simp only [caA, caB, hd_32, if_true, if_false, ps_ps, Nat.one_ne_zero, not_false_eq_true]))

set_option maxHeartbeats 4000000 in
set_option maxRecDepth 100000 in
theorem cX8_command15_ok (l : Launch) (G : GT) (X : St) (pp L : Nat) (hp : pp ≤ L) (hL : L ≤ 60) (e6 : X.1 15 6 = nI pp) (e7 : X.1 15 7 = nI L) (e9 : X.1 15 9 = 0) (hwd : WdOk (X.1 25) (X.1 26)) (e10 : X.1 15 10 = 1) (p1 : Nat) (hp1 : p1 ≤ L) (z1 : Nat → Int32) (hw9 : wdM (X.1 22) L pp (X.1 24) = (5, p1, 0, z1)) (hm : MInv (X.1 16)) (hok : (ca5 (X.1 22) L p1).2.2.2.2 = 0) : MetV l G yX8_command (wsG yX8_command cX8_command 6 none) (rmz 5 114) [.ref (ad G 723)] X (fun Y => Y = setRow (setRow (setRow (setRow X 15 (doM 5 (ps (X.1 15) (ca5 (X.1 22) L p1).2.2.2.1 0) (X.1 16) (X.1 20) (X.1 21) (ca5 (X.1 22) L p1).1 (ca5 (X.1 22) L p1).2.1 (ca5 (X.1 22) L p1).2.2.1).1) 24 z1) 16 (doM 5 (ps (X.1 15) (ca5 (X.1 22) L p1).2.2.2.1 0) (X.1 16) (X.1 20) (X.1 21) (ca5 (X.1 22) L p1).1 (ca5 (X.1 22) L p1).2.1 (ca5 (X.1 22) L p1).2.2.1).2.1) 20 (doM 5 (ps (X.1 15) (ca5 (X.1 22) L p1).2.2.2.1 0) (X.1 16) (X.1 20) (X.1 21) (ca5 (X.1 22) L p1).1 (ca5 (X.1 22) L p1).2.1 (ca5 (X.1 22) L p1).2.2.1).2.2) := by
  refine g_met (cc := cX8_command) (maxL := 6) (ret := none) (by decide) rfl (Nat.le_of_ble_eq_true rfl) ?_
  intro p e s m below meth c ls C hr hlk hnm hW hl
  have hx := C.1.1
  have hb := C.1.2.1
  have hS : va_S (Ab G) s.heap s.heap [] := va_S.rf
  have hl : lv_has ls 6 [(0, .ref (ad G 723))] := hl
  have hW : Wd G (setRow (setRow (setRow (setRow (X) 15 (X.1 15)) 24 (X.1 24)) 16 (X.1 16)) 20 (X.1 20)) s.heap := Wd.cast (((((sr_same (X := setRow (setRow (setRow (X) 15 (X.1 15)) 24 (X.1 24)) 16 (X.1 16)) (r := 20) rfl).trans (sr_same (X := setRow (setRow (X) 15 (X.1 15)) 24 (X.1 24)) (r := 16) rfl)).trans (sr_same (X := setRow (X) 15 (X.1 15)) (r := 24) rfl)).trans (sr_same (X := X) (r := 15) rfl))).symm hW
  refine lv_aload_n hx hb dX8_command_0 rfl (lv_at hl 0 rfl) ?_
  refine g_calli (va_runV (As := []) (rest := []) C.1 (cX8_word_ok l G (setRow (setRow (setRow (setRow X 15 (X.1 15)) 24 (X.1 24)) 16 (X.1 16)) 20 (X.1 20)) pp L (show pp ≤ L by omega) hL e6 e7 e9 hwd) (cwV 0 C.1.2.2.2.2 (gV qw_1895 qw_1897 qw_63 qw_81 qw_1898) rfl rfl rfl (by decide +kernel) ⟨Nat.le_of_ble_eq_true rfl, Nat.le_of_ble_eq_true rfl⟩) (g_rModel C hW hS []) rfl rfl hl.1 rfl (lv_room (Nat.le_of_ble_eq_true rfl)) dX8_command_1 ⟨Nat.zero_le _, Nat.zero_le _⟩) hS (fun r_2 Y_3 H_4 locs_5 hW_6 hS_7 h_1 => ?_)
  replace h_1 : r_2 = (wdM (X.1 22) L pp (X.1 24)).1 ∧ Y_3 = setRow (setRow (setRow (setRow (setRow (setRow X 15 (X.1 15)) 24 (X.1 24)) 16 (X.1 16)) 20 (X.1 20)) 15 (ps (X.1 15) (wdM (X.1 22) L pp (X.1 24)).2.1 (wdM (X.1 22) L pp (X.1 24)).2.2.1)) 24 (wdM (X.1 22) L pp (X.1 24)).2.2.2 := h_1
  rw [hw9] at h_1
  obtain ⟨h_8, h_1⟩ := h_1
  replace h_8 : r_2 = 5 := h_8
  subst h_8
  replace h_1 : Y_3 = setRow (setRow (setRow (setRow (setRow (setRow X 15 (X.1 15)) 24 (X.1 24)) 16 (X.1 16)) 20 (X.1 20)) 15 (ps (X.1 15) p1 0)) 24 z1 := h_1
  replace h_1 : Y_3 = setRow (setRow (setRow (setRow (setRow (setRow X 15 (X.1 15)) 24 (X.1 24)) 16 (X.1 16)) 20 (X.1 20)) 15 (ps (X.1 15) p1 0)) 24 z1 := h_1
  obtain ⟨w_9, ew_9⟩ : ∃ Z9, Z9 = ps (X.1 15) p1 0 := ⟨_, rfl⟩
  obtain ⟨w_10, ew_10⟩ : ∃ Z9, Z9 = z1 := ⟨_, rfl⟩
  have qqw_9 : Y_3 = setRow (setRow (setRow (setRow (setRow (setRow X 15 (X.1 15)) 24 (X.1 24)) 16 (X.1 16)) 20 (X.1 20)) 15 w_9) 24 w_10 := by rw [h_1, ew_9, ew_10]
  have hW_11 : Wd G (setRow (setRow (setRow (setRow X 15 w_9) 24 w_10) 16 (X.1 16)) 20 (X.1 20)) H_4 := Wd.cast (((qqw_9).trans (congrArg (fun Z9 => setRow (Z9) 24 w_10) (sr_in (by decide) (sr_in (by decide) (sr_in (by decide) sr_out))))).trans (congrArg (fun Z9 => Z9) (sr_in (by decide) (sr_in (by decide) sr_out)))) hW_6
  have kn_12 : w_9 (7) = nI L := by rw [ew_9]; exact (ps_o (by decide) (by decide)).trans e7
  have kn_13 : w_9 (10) = 1 := by rw [ew_9]; exact (ps_o (by decide) (by decide)).trans e10
  have kn_14 : w_9 (6) = nI p1 := by rw [ew_9]; exact ps_6
  have kn_15 : w_9 (9) = 0 := by rw [ew_9]; exact ps_9
  refine lv_istore_n (lv' := [(1, .int 5), (0, .ref (ad G 723))]) hx hb dX8_command_4 rfl hl (by decide) rfl (fun ls_16 hl_17 => ?_)
  refine lv_iconst (v := 0) hx hb dX8_command_5 (by decide) ?_
  refine lv_istore_n (lv' := [(2, .int 0), (1, .int 5), (0, .ref (ad G 723))]) hx hb dX8_command_6 rfl hl_17 (by decide) rfl (fun ls_18 hl_19 => ?_)
  refine lv_iconst (v := 0) hx hb dX8_command_7 (by decide) ?_
  refine lv_istore_n (lv' := [(3, .int 0), (2, .int 0), (1, .int 5), (0, .ref (ad G 723))]) hx hb dX8_command_8 rfl hl_19 (by decide) rfl (fun ls_20 hl_21 => ?_)
  refine lv_aload_n hx hb dX8_command_9 rfl (lv_at hl_21 3 rfl) ?_
  refine gM_isWrong C hW_11 (hwc hwX8) (mc qw_1496) dX8_command_10 ?_
  refine g_top (y := w_9 (9)) (congrFun (rd_in (by decide) (rd_in (by decide) (rd_in (by decide) rd_out))) _) ?_
  refine g_top (y := 0) kn_15 ?_
  refine lv_if_eq (tgt := 17) hx hb dX8_command_13 (by decide) (fun _ => ?_) (fun h9 => absurd h9 (by decide))
  refine lv_aload_n hx hb dX8_command_17 rfl (lv_at hl_21 3 rfl) ?_
  refine lv_iload_n hx hb dX8_command_18 rfl (lv_at hl_21 2 rfl) ?_
  refine lv_iconst (v := 5) hx hb dX8_command_19 (by decide) ?_
  refine lv_icmp_eq (tgt := 29) hx hb dX8_command_20 (by decide) (fun _ => ?_) (fun h9 => absurd h9 (by decide))
  refine lv_iconst (v := 3) hx hb dX8_command_29 (by decide) ?_
  refine lv_goto (tgt := 34) hx hb dX8_command_30 (by decide) ?_
  refine g_calli (va_runV (As := [.int 3]) (rest := []) C.1 (cX8_digits_ok l G (setRow (setRow (setRow (setRow X 15 w_9) 24 w_10) 16 (X.1 16)) 20 (X.1 20)) p1 L (show p1 ≤ L by omega) hL kn_14 kn_12 kn_15 3 (by omega)) (cwV 1 C.1.2.2.2.2 (gV qw_1903 qw_1905 qw_65 qw_81 qw_1906) rfl rfl rfl (by decide +kernel) ⟨Nat.le_of_ble_eq_true rfl, Nat.le_of_ble_eq_true rfl⟩) (g_rModel C hW_11 hS_7 [.int 3]) rfl rfl hl_21.1 rfl (lv_room (Nat.le_of_ble_eq_true rfl)) dX8_command_34 ⟨Nat.zero_le _, Nat.zero_le _⟩) hS_7 (fun r_23 Y_24 H_25 locs_26 hW_27 hS_28 h_22 => ?_)
  replace h_22 : r_23 = (dgM (X.1 22) L 3 p1).1 ∧ Y_24 = setRow (setRow (setRow (setRow (setRow X 15 w_9) 24 w_10) 16 (X.1 16)) 20 (X.1 20)) 15 (ps w_9 (dgM (X.1 22) L 3 p1).2.1 (dgM (X.1 22) L 3 p1).2.2) := h_22
  obtain ⟨n_29, p_30, c_31, hd_32⟩ : ∃ x9 y9 z9, dgM (X.1 22) L 3 p1 = (x9, y9, z9) := ⟨_, _, _, rfl⟩
  rw [hd_32] at h_22
  obtain ⟨h_33, h_22⟩ := h_22
  replace h_33 : r_23 = n_29 := h_33
  subst h_33
  have hp_30 : p_30 ≤ L := dgM_le (show p1 ≤ L by omega) hd_32
  rcases dgM_b hd_32 with hbc_31 | hbc_31
  · rw [hbc_31] at hd_32 h_22
    replace h_22 : Y_24 = setRow (setRow (setRow (setRow (setRow X 15 w_9) 24 w_10) 16 (X.1 16)) 20 (X.1 20)) 15 (ps w_9 p_30 0) := h_22
    replace h_22 : Y_24 = setRow (setRow (setRow (setRow (setRow X 15 w_9) 24 w_10) 16 (X.1 16)) 20 (X.1 20)) 15 (ps w_9 p_30 0) := h_22
    obtain ⟨w_34, ew_34⟩ : ∃ Z9, Z9 = ps w_9 p_30 0 := ⟨_, rfl⟩
    have qqw_34 : Y_24 = setRow (setRow (setRow (setRow (setRow X 15 w_9) 24 w_10) 16 (X.1 16)) 20 (X.1 20)) 15 w_34 := by rw [h_22, ew_34]
    have hW_35 : Wd G (setRow (setRow (setRow (setRow X 15 w_34) 24 w_10) 16 (X.1 16)) 20 (X.1 20)) H_25 := Wd.cast ((qqw_34).trans (congrArg (fun Z9 => Z9) (sr_in (by decide) (sr_in (by decide) (sr_in (by decide) sr_out))))) hW_27
    have kn_36 : w_34 (7) = nI L := by rw [ew_34]; exact (ps_o (by decide) (by decide)).trans kn_12
    have kn_37 : w_34 (10) = 1 := by rw [ew_34]; exact (ps_o (by decide) (by decide)).trans kn_13
    have kn_38 : w_34 (6) = nI p_30 := by rw [ew_34]; exact ps_6
    have kn_39 : w_34 (9) = 0 := by rw [ew_34]; exact ps_9
    refine lv_istore (lv' := [(4, .int r_23), (3, .int 0), (2, .int 0), (1, .int 5), (0, .ref (ad G 723))]) hx hb dX8_command_37 hl_21 (by decide) rfl (fun ls_40 hl_41 => ?_)
    refine lv_iload_n hx hb dX8_command_39 rfl (lv_at hl_41 3 rfl) ?_
    refine lv_if_ne (tgt := 55) hx hb dX8_command_40 (by decide) (fun _ => ?_) (fun h9 => absurd h9 (by decide))
    refine lv_iload_n hx hb dX8_command_55 rfl (lv_at hl_41 3 rfl) ?_
    refine lv_if_ne (tgt := 72) hx hb dX8_command_56 (by decide) (fun _ => ?_) (fun h9 => absurd h9 (by decide))
    refine lv_iload_n hx hb dX8_command_72 rfl (lv_at hl_41 3 rfl) ?_
    refine lv_iconst (v := 1) hx hb dX8_command_73 (by decide) ?_
    refine lv_icmp_eq (tgt := 99) hx hb dX8_command_74 (by decide) (fun h9 => absurd h9 (by decide)) (fun _ => ?_)
    refine lv_iload_n hx hb dX8_command_77 rfl (lv_at hl_41 3 rfl) ?_
    refine lv_iconst (v := 3) hx hb dX8_command_78 (by decide) ?_
    refine lv_icmp_eq (tgt := 99) hx hb dX8_command_79 (by decide) (fun h9 => absurd h9 (by decide)) (fun _ => ?_)
    refine lv_iload_n hx hb dX8_command_82 rfl (lv_at hl_41 3 rfl) ?_
    refine lv_iconst (v := 4) hx hb dX8_command_83 (by decide) ?_
    refine lv_icmp_eq (tgt := 99) hx hb dX8_command_84 (by decide) (fun h9 => absurd h9 (by decide)) (fun _ => ?_)
    refine lv_iload_n hx hb dX8_command_87 rfl (lv_at hl_41 3 rfl) ?_
    refine lv_bipush (v := 6) hx hb dX8_command_88 (by decide) ?_
    refine lv_icmp_eq (tgt := 99) hx hb dX8_command_90 (by decide) (fun h9 => absurd h9 (by decide)) (fun _ => ?_)
    refine lv_iload_n hx hb dX8_command_93 rfl (lv_at hl_41 3 rfl) ?_
    refine lv_bipush (v := 8) hx hb dX8_command_94 (by decide) ?_
    refine lv_icmp_ne (tgt := 112) hx hb dX8_command_96 (by decide) (fun _ => ?_) (fun h9 => absurd h9 (by decide))
    refine lv_iload_n hx hb dX8_command_112 rfl (lv_at hl_41 3 rfl) ?_
    refine lv_iconst (v := 3) hx hb dX8_command_113 (by decide) ?_
    refine lv_icmp_ne (tgt := 130) hx hb dX8_command_114 (by decide) (fun _ => ?_) (fun h9 => absurd h9 (by decide))
    refine lv_aload_n hx hb dX8_command_130 rfl (lv_at hl_41 4 rfl) ?_
    refine gM_isWrong C hW_35 (hwc hwX8) (mc qw_1496) dX8_command_131 ?_
    refine g_top (y := w_34 (9)) (congrFun (rd_in (by decide) (rd_in (by decide) (rd_in (by decide) rd_out))) _) ?_
    refine g_top (y := 0) kn_39 ?_
    refine lv_if_ne (tgt := 144) hx hb dX8_command_134 (by decide) (fun h9 => absurd h9 (by decide)) (fun _ => ?_)
    refine lv_aload_n hx hb dX8_command_137 rfl (lv_at hl_41 4 rfl) ?_
    refine gM_isDoing C hW_35 (hwc hwX8) (mc qw_1497) dX8_command_138 ?_
    refine g_top (y := w_34 (10)) (congrFun (rd_in (by decide) (rd_in (by decide) (rd_in (by decide) rd_out))) _) ?_
    refine g_top (y := 1) kn_37 ?_
    refine lv_if_ne (tgt := 145) hx hb dX8_command_141 (by decide) (fun _ => ?_) (fun h9 => absurd h9 (by decide))
    refine lv_aload_n hx hb dX8_command_145 rfl (lv_at hl_41 4 rfl) ?_
    refine lv_iload_n hx hb dX8_command_146 rfl (lv_at hl_41 3 rfl) ?_
    refine lv_iload hx hb dX8_command_147 (lv_at hl_41 0 rfl) ?_
    refine lv_iload_n hx hb dX8_command_149 rfl (lv_at hl_41 2 rfl) ?_
    refine lv_iload_n hx hb dX8_command_150 rfl (lv_at hl_41 1 rfl) ?_
    refine g_calli (va_runV (As := [.int 5, .int r_23, .int 0, .int 0]) (rest := []) C.1 (cX8_does5_ok l G (setRow (setRow (setRow (setRow X 15 w_34) 24 w_10) 16 (X.1 16)) 20 (X.1 20)) r_23 0 0 hm) (cwV 4 C.1.2.2.2.2 (gV qw_1919 qw_1921 qw_69 qw_81 qw_1922) rfl rfl rfl (by decide +kernel) ⟨Nat.le_of_ble_eq_true rfl, Nat.le_of_ble_eq_true rfl⟩) (g_rModel C hW_35 hS_28 [.int 5, .int r_23, .int 0, .int 0]) rfl rfl hl_41.1 rfl (lv_room (Nat.le_of_ble_eq_true rfl)) dX8_command_151 ⟨Nat.zero_le _, Nat.zero_le _⟩) hS_28 (fun r_43 Y_44 H_45 locs_46 hW_47 hS_48 h_42 => ?_)
    replace h_42 : Y_44 = setRow (setRow (setRow (setRow (setRow (setRow (setRow X 15 w_34) 24 w_10) 16 (X.1 16)) 20 (X.1 20)) 15 ((doM 5 w_34 (X.1 16) (X.1 20) (X.1 21) r_23 0 0).1)) 16 ((doM 5 w_34 (X.1 16) (X.1 20) (X.1 21) r_23 0 0).2.1)) 20 ((doM 5 w_34 (X.1 16) (X.1 20) (X.1 21) r_23 0 0).2.2) := h_42
    obtain ⟨w_49, ew_49⟩ : ∃ Z9, Z9 = (doM 5 w_34 (X.1 16) (X.1 20) (X.1 21) r_23 0 0).1 := ⟨_, rfl⟩
    obtain ⟨w_50, ew_50⟩ : ∃ Z9, Z9 = (doM 5 w_34 (X.1 16) (X.1 20) (X.1 21) r_23 0 0).2.1 := ⟨_, rfl⟩
    obtain ⟨w_51, ew_51⟩ : ∃ Z9, Z9 = (doM 5 w_34 (X.1 16) (X.1 20) (X.1 21) r_23 0 0).2.2 := ⟨_, rfl⟩
    have qqw_49 : Y_44 = setRow (setRow (setRow (setRow (setRow (setRow (setRow X 15 w_34) 24 w_10) 16 (X.1 16)) 20 (X.1 20)) 15 w_49) 16 w_50) 20 w_51 := by rw [h_42, ew_49, ew_50, ew_51]
    have hW_52 : Wd G (setRow (setRow (setRow (setRow X 15 w_49) 24 w_10) 16 w_50) 20 w_51) H_45 := Wd.cast ((((qqw_49).trans (congrArg (fun Z9 => setRow (setRow (Z9) 16 w_50) 20 w_51) (sr_in (by decide) (sr_in (by decide) (sr_in (by decide) sr_out))))).trans (congrArg (fun Z9 => setRow (Z9) 20 w_51) (sr_in (by decide) sr_out))).trans (congrArg (fun Z9 => Z9) sr_out)) hW_47
    refine lv_istore (lv' := [(5, .int r_43), (4, .int r_23), (3, .int 0), (2, .int 0), (1, .int 5), (0, .ref (ad G 723))]) hx hb dX8_command_154 hl_41 (by decide) rfl (fun ls_53 hl_54 => ?_)
    exact g_vret C hr hlk hW_52 hS_48 dX8_command_156 (by subst ew_51; subst ew_50; subst ew_49; subst ew_34; subst ew_10; subst ew_9; simp only [ca5, hd_32, if_true, if_false, ps_ps, Nat.one_ne_zero])
  · rw [hbc_31] at hd_32 h_22
    replace h_22 : Y_24 = setRow (setRow (setRow (setRow (setRow X 15 w_9) 24 w_10) 16 (X.1 16)) 20 (X.1 20)) 15 (ps w_9 p_30 1) := h_22
    replace h_22 : Y_24 = setRow (setRow (setRow (setRow (setRow X 15 w_9) 24 w_10) 16 (X.1 16)) 20 (X.1 20)) 15 (ps w_9 p_30 1) := h_22
    obtain ⟨w_55, ew_55⟩ : ∃ Z9, Z9 = ps w_9 p_30 1 := ⟨_, rfl⟩
    have qqw_55 : Y_24 = setRow (setRow (setRow (setRow (setRow X 15 w_9) 24 w_10) 16 (X.1 16)) 20 (X.1 20)) 15 w_55 := by rw [h_22, ew_55]
    have hW_56 : Wd G (setRow (setRow (setRow (setRow X 15 w_55) 24 w_10) 16 (X.1 16)) 20 (X.1 20)) H_25 := Wd.cast ((qqw_55).trans (congrArg (fun Z9 => Z9) (sr_in (by decide) (sr_in (by decide) (sr_in (by decide) sr_out))))) hW_27
    have kn_57 : w_55 (7) = nI L := by rw [ew_55]; exact (ps_o (by decide) (by decide)).trans kn_12
    have kn_58 : w_55 (10) = 1 := by rw [ew_55]; exact (ps_o (by decide) (by decide)).trans kn_13
    have kn_59 : w_55 (6) = nI p_30 := by rw [ew_55]; exact ps_6
    have kn_60 : w_55 (9) = 1 := by rw [ew_55]; exact ps_9
    refine lv_istore (lv' := [(4, .int r_23), (3, .int 0), (2, .int 0), (1, .int 5), (0, .ref (ad G 723))]) hx hb dX8_command_37 hl_21 (by decide) rfl (fun ls_61 hl_62 => ?_)
    refine lv_iload_n hx hb dX8_command_39 rfl (lv_at hl_62 3 rfl) ?_
    refine lv_if_ne (tgt := 55) hx hb dX8_command_40 (by decide) (fun _ => ?_) (fun h9 => absurd h9 (by decide))
    refine lv_iload_n hx hb dX8_command_55 rfl (lv_at hl_62 3 rfl) ?_
    refine lv_if_ne (tgt := 72) hx hb dX8_command_56 (by decide) (fun _ => ?_) (fun h9 => absurd h9 (by decide))
    refine lv_iload_n hx hb dX8_command_72 rfl (lv_at hl_62 3 rfl) ?_
    refine lv_iconst (v := 1) hx hb dX8_command_73 (by decide) ?_
    refine lv_icmp_eq (tgt := 99) hx hb dX8_command_74 (by decide) (fun h9 => absurd h9 (by decide)) (fun _ => ?_)
    refine lv_iload_n hx hb dX8_command_77 rfl (lv_at hl_62 3 rfl) ?_
    refine lv_iconst (v := 3) hx hb dX8_command_78 (by decide) ?_
    refine lv_icmp_eq (tgt := 99) hx hb dX8_command_79 (by decide) (fun h9 => absurd h9 (by decide)) (fun _ => ?_)
    refine lv_iload_n hx hb dX8_command_82 rfl (lv_at hl_62 3 rfl) ?_
    refine lv_iconst (v := 4) hx hb dX8_command_83 (by decide) ?_
    refine lv_icmp_eq (tgt := 99) hx hb dX8_command_84 (by decide) (fun h9 => absurd h9 (by decide)) (fun _ => ?_)
    refine lv_iload_n hx hb dX8_command_87 rfl (lv_at hl_62 3 rfl) ?_
    refine lv_bipush (v := 6) hx hb dX8_command_88 (by decide) ?_
    refine lv_icmp_eq (tgt := 99) hx hb dX8_command_90 (by decide) (fun h9 => absurd h9 (by decide)) (fun _ => ?_)
    refine lv_iload_n hx hb dX8_command_93 rfl (lv_at hl_62 3 rfl) ?_
    refine lv_bipush (v := 8) hx hb dX8_command_94 (by decide) ?_
    refine lv_icmp_ne (tgt := 112) hx hb dX8_command_96 (by decide) (fun _ => ?_) (fun h9 => absurd h9 (by decide))
    refine lv_iload_n hx hb dX8_command_112 rfl (lv_at hl_62 3 rfl) ?_
    refine lv_iconst (v := 3) hx hb dX8_command_113 (by decide) ?_
    refine lv_icmp_ne (tgt := 130) hx hb dX8_command_114 (by decide) (fun _ => ?_) (fun h9 => absurd h9 (by decide))
    refine lv_aload_n hx hb dX8_command_130 rfl (lv_at hl_62 4 rfl) ?_
    refine gM_isWrong C hW_56 (hwc hwX8) (mc qw_1496) dX8_command_131 ?_
    refine g_top (y := w_55 (9)) (congrFun (rd_in (by decide) (rd_in (by decide) (rd_in (by decide) rd_out))) _) ?_
    refine g_top (y := 1) kn_60 ?_
    refine lv_if_ne (tgt := 144) hx hb dX8_command_134 (by decide) (fun _ => ?_) (fun h9 => absurd h9 (by decide))
    exact g_vret C hr hlk hW_56 hS_28 dX8_command_144 (absurd hok (by simp only [ca5, hd_32, if_true, if_false, ps_ps, Nat.one_ne_zero, not_false_eq_true]))

set_option maxHeartbeats 4000000 in
set_option maxRecDepth 100000 in
theorem cX8_command16_ok (l : Launch) (G : GT) (X : St) (pp L : Nat) (hp : pp ≤ L) (hL : L ≤ 60) (e6 : X.1 15 6 = nI pp) (e7 : X.1 15 7 = nI L) (e9 : X.1 15 9 = 0) (hwd : WdOk (X.1 25) (X.1 26)) (e10 : X.1 15 10 = 1) (p1 : Nat) (hp1 : p1 ≤ L) (z1 : Nat → Int32) (hw9 : wdM (X.1 22) L pp (X.1 24) = (6, p1, 0, z1)) (hm : MInv (X.1 16)) (hok : (caA (X.1 22) L p1).2.2.2.2 = 0) : MetV l G yX8_command (wsG yX8_command cX8_command 6 none) (rmz 5 114) [.ref (ad G 723)] X (fun Y => Y = setRow (setRow (setRow (setRow X 15 (doM 6 (ps (X.1 15) (caA (X.1 22) L p1).2.2.2.1 0) (X.1 16) (X.1 20) (X.1 21) (caA (X.1 22) L p1).1 (caA (X.1 22) L p1).2.1 (caA (X.1 22) L p1).2.2.1).1) 24 z1) 16 (doM 6 (ps (X.1 15) (caA (X.1 22) L p1).2.2.2.1 0) (X.1 16) (X.1 20) (X.1 21) (caA (X.1 22) L p1).1 (caA (X.1 22) L p1).2.1 (caA (X.1 22) L p1).2.2.1).2.1) 20 (doM 6 (ps (X.1 15) (caA (X.1 22) L p1).2.2.2.1 0) (X.1 16) (X.1 20) (X.1 21) (caA (X.1 22) L p1).1 (caA (X.1 22) L p1).2.1 (caA (X.1 22) L p1).2.2.1).2.2) := by
  refine g_met (cc := cX8_command) (maxL := 6) (ret := none) (by decide) rfl (Nat.le_of_ble_eq_true rfl) ?_
  intro p e s m below meth c ls C hr hlk hnm hW hl
  have hx := C.1.1
  have hb := C.1.2.1
  have hS : va_S (Ab G) s.heap s.heap [] := va_S.rf
  have hl : lv_has ls 6 [(0, .ref (ad G 723))] := hl
  have hW : Wd G (setRow (setRow (setRow (setRow (X) 15 (X.1 15)) 24 (X.1 24)) 16 (X.1 16)) 20 (X.1 20)) s.heap := Wd.cast (((((sr_same (X := setRow (setRow (setRow (X) 15 (X.1 15)) 24 (X.1 24)) 16 (X.1 16)) (r := 20) rfl).trans (sr_same (X := setRow (setRow (X) 15 (X.1 15)) 24 (X.1 24)) (r := 16) rfl)).trans (sr_same (X := setRow (X) 15 (X.1 15)) (r := 24) rfl)).trans (sr_same (X := X) (r := 15) rfl))).symm hW
  refine lv_aload_n hx hb dX8_command_0 rfl (lv_at hl 0 rfl) ?_
  refine g_calli (va_runV (As := []) (rest := []) C.1 (cX8_word_ok l G (setRow (setRow (setRow (setRow X 15 (X.1 15)) 24 (X.1 24)) 16 (X.1 16)) 20 (X.1 20)) pp L (show pp ≤ L by omega) hL e6 e7 e9 hwd) (cwV 0 C.1.2.2.2.2 (gV qw_1895 qw_1897 qw_63 qw_81 qw_1898) rfl rfl rfl (by decide +kernel) ⟨Nat.le_of_ble_eq_true rfl, Nat.le_of_ble_eq_true rfl⟩) (g_rModel C hW hS []) rfl rfl hl.1 rfl (lv_room (Nat.le_of_ble_eq_true rfl)) dX8_command_1 ⟨Nat.zero_le _, Nat.zero_le _⟩) hS (fun r_2 Y_3 H_4 locs_5 hW_6 hS_7 h_1 => ?_)
  replace h_1 : r_2 = (wdM (X.1 22) L pp (X.1 24)).1 ∧ Y_3 = setRow (setRow (setRow (setRow (setRow (setRow X 15 (X.1 15)) 24 (X.1 24)) 16 (X.1 16)) 20 (X.1 20)) 15 (ps (X.1 15) (wdM (X.1 22) L pp (X.1 24)).2.1 (wdM (X.1 22) L pp (X.1 24)).2.2.1)) 24 (wdM (X.1 22) L pp (X.1 24)).2.2.2 := h_1
  rw [hw9] at h_1
  obtain ⟨h_8, h_1⟩ := h_1
  replace h_8 : r_2 = 6 := h_8
  subst h_8
  replace h_1 : Y_3 = setRow (setRow (setRow (setRow (setRow (setRow X 15 (X.1 15)) 24 (X.1 24)) 16 (X.1 16)) 20 (X.1 20)) 15 (ps (X.1 15) p1 0)) 24 z1 := h_1
  replace h_1 : Y_3 = setRow (setRow (setRow (setRow (setRow (setRow X 15 (X.1 15)) 24 (X.1 24)) 16 (X.1 16)) 20 (X.1 20)) 15 (ps (X.1 15) p1 0)) 24 z1 := h_1
  obtain ⟨w_9, ew_9⟩ : ∃ Z9, Z9 = ps (X.1 15) p1 0 := ⟨_, rfl⟩
  obtain ⟨w_10, ew_10⟩ : ∃ Z9, Z9 = z1 := ⟨_, rfl⟩
  have qqw_9 : Y_3 = setRow (setRow (setRow (setRow (setRow (setRow X 15 (X.1 15)) 24 (X.1 24)) 16 (X.1 16)) 20 (X.1 20)) 15 w_9) 24 w_10 := by rw [h_1, ew_9, ew_10]
  have hW_11 : Wd G (setRow (setRow (setRow (setRow X 15 w_9) 24 w_10) 16 (X.1 16)) 20 (X.1 20)) H_4 := Wd.cast (((qqw_9).trans (congrArg (fun Z9 => setRow (Z9) 24 w_10) (sr_in (by decide) (sr_in (by decide) (sr_in (by decide) sr_out))))).trans (congrArg (fun Z9 => Z9) (sr_in (by decide) (sr_in (by decide) sr_out)))) hW_6
  have kn_12 : w_9 (7) = nI L := by rw [ew_9]; exact (ps_o (by decide) (by decide)).trans e7
  have kn_13 : w_9 (10) = 1 := by rw [ew_9]; exact (ps_o (by decide) (by decide)).trans e10
  have kn_14 : w_9 (6) = nI p1 := by rw [ew_9]; exact ps_6
  have kn_15 : w_9 (9) = 0 := by rw [ew_9]; exact ps_9
  refine lv_istore_n (lv' := [(1, .int 6), (0, .ref (ad G 723))]) hx hb dX8_command_4 rfl hl (by decide) rfl (fun ls_16 hl_17 => ?_)
  refine lv_iconst (v := 0) hx hb dX8_command_5 (by decide) ?_
  refine lv_istore_n (lv' := [(2, .int 0), (1, .int 6), (0, .ref (ad G 723))]) hx hb dX8_command_6 rfl hl_17 (by decide) rfl (fun ls_18 hl_19 => ?_)
  refine lv_iconst (v := 0) hx hb dX8_command_7 (by decide) ?_
  refine lv_istore_n (lv' := [(3, .int 0), (2, .int 0), (1, .int 6), (0, .ref (ad G 723))]) hx hb dX8_command_8 rfl hl_19 (by decide) rfl (fun ls_20 hl_21 => ?_)
  refine lv_aload_n hx hb dX8_command_9 rfl (lv_at hl_21 3 rfl) ?_
  refine gM_isWrong C hW_11 (hwc hwX8) (mc qw_1496) dX8_command_10 ?_
  refine g_top (y := w_9 (9)) (congrFun (rd_in (by decide) (rd_in (by decide) (rd_in (by decide) rd_out))) _) ?_
  refine g_top (y := 0) kn_15 ?_
  refine lv_if_eq (tgt := 17) hx hb dX8_command_13 (by decide) (fun _ => ?_) (fun h9 => absurd h9 (by decide))
  refine lv_aload_n hx hb dX8_command_17 rfl (lv_at hl_21 3 rfl) ?_
  refine lv_iload_n hx hb dX8_command_18 rfl (lv_at hl_21 2 rfl) ?_
  refine lv_iconst (v := 5) hx hb dX8_command_19 (by decide) ?_
  refine lv_icmp_eq (tgt := 29) hx hb dX8_command_20 (by decide) (fun h9 => absurd h9 (by decide)) (fun _ => ?_)
  refine lv_iload_n hx hb dX8_command_23 rfl (lv_at hl_21 2 rfl) ?_
  refine lv_bipush (v := 8) hx hb dX8_command_24 (by decide) ?_
  refine lv_icmp_lt (tgt := 33) hx hb dX8_command_26 (by decide) (fun _ => ?_) (fun h9 => absurd h9 (by decide))
  refine lv_iconst (v := 1) hx hb dX8_command_33 (by decide) ?_
  refine g_calli (va_runV (As := [.int 1]) (rest := []) C.1 (cX8_digits_ok l G (setRow (setRow (setRow (setRow X 15 w_9) 24 w_10) 16 (X.1 16)) 20 (X.1 20)) p1 L (show p1 ≤ L by omega) hL kn_14 kn_12 kn_15 1 (by omega)) (cwV 1 C.1.2.2.2.2 (gV qw_1903 qw_1905 qw_65 qw_81 qw_1906) rfl rfl rfl (by decide +kernel) ⟨Nat.le_of_ble_eq_true rfl, Nat.le_of_ble_eq_true rfl⟩) (g_rModel C hW_11 hS_7 [.int 1]) rfl rfl hl_21.1 rfl (lv_room (Nat.le_of_ble_eq_true rfl)) dX8_command_34 ⟨Nat.zero_le _, Nat.zero_le _⟩) hS_7 (fun r_23 Y_24 H_25 locs_26 hW_27 hS_28 h_22 => ?_)
  replace h_22 : r_23 = (dgM (X.1 22) L 1 p1).1 ∧ Y_24 = setRow (setRow (setRow (setRow (setRow X 15 w_9) 24 w_10) 16 (X.1 16)) 20 (X.1 20)) 15 (ps w_9 (dgM (X.1 22) L 1 p1).2.1 (dgM (X.1 22) L 1 p1).2.2) := h_22
  obtain ⟨n_29, p_30, c_31, hd_32⟩ : ∃ x9 y9 z9, dgM (X.1 22) L 1 p1 = (x9, y9, z9) := ⟨_, _, _, rfl⟩
  rw [hd_32] at h_22
  obtain ⟨h_33, h_22⟩ := h_22
  replace h_33 : r_23 = n_29 := h_33
  subst h_33
  have hp_30 : p_30 ≤ L := dgM_le (show p1 ≤ L by omega) hd_32
  rcases dgM_b hd_32 with hbc_31 | hbc_31
  · rw [hbc_31] at hd_32 h_22
    replace h_22 : Y_24 = setRow (setRow (setRow (setRow (setRow X 15 w_9) 24 w_10) 16 (X.1 16)) 20 (X.1 20)) 15 (ps w_9 p_30 0) := h_22
    replace h_22 : Y_24 = setRow (setRow (setRow (setRow (setRow X 15 w_9) 24 w_10) 16 (X.1 16)) 20 (X.1 20)) 15 (ps w_9 p_30 0) := h_22
    obtain ⟨w_34, ew_34⟩ : ∃ Z9, Z9 = ps w_9 p_30 0 := ⟨_, rfl⟩
    have qqw_34 : Y_24 = setRow (setRow (setRow (setRow (setRow X 15 w_9) 24 w_10) 16 (X.1 16)) 20 (X.1 20)) 15 w_34 := by rw [h_22, ew_34]
    have hW_35 : Wd G (setRow (setRow (setRow (setRow X 15 w_34) 24 w_10) 16 (X.1 16)) 20 (X.1 20)) H_25 := Wd.cast ((qqw_34).trans (congrArg (fun Z9 => Z9) (sr_in (by decide) (sr_in (by decide) (sr_in (by decide) sr_out))))) hW_27
    have kn_36 : w_34 (7) = nI L := by rw [ew_34]; exact (ps_o (by decide) (by decide)).trans kn_12
    have kn_37 : w_34 (10) = 1 := by rw [ew_34]; exact (ps_o (by decide) (by decide)).trans kn_13
    have kn_38 : w_34 (6) = nI p_30 := by rw [ew_34]; exact ps_6
    have kn_39 : w_34 (9) = 0 := by rw [ew_34]; exact ps_9
    refine lv_istore (lv' := [(4, .int r_23), (3, .int 0), (2, .int 0), (1, .int 6), (0, .ref (ad G 723))]) hx hb dX8_command_37 hl_21 (by decide) rfl (fun ls_40 hl_41 => ?_)
    refine lv_iload_n hx hb dX8_command_39 rfl (lv_at hl_41 3 rfl) ?_
    refine lv_if_ne (tgt := 55) hx hb dX8_command_40 (by decide) (fun _ => ?_) (fun h9 => absurd h9 (by decide))
    refine lv_iload_n hx hb dX8_command_55 rfl (lv_at hl_41 3 rfl) ?_
    refine lv_if_ne (tgt := 72) hx hb dX8_command_56 (by decide) (fun _ => ?_) (fun h9 => absurd h9 (by decide))
    refine lv_iload_n hx hb dX8_command_72 rfl (lv_at hl_41 3 rfl) ?_
    refine lv_iconst (v := 1) hx hb dX8_command_73 (by decide) ?_
    refine lv_icmp_eq (tgt := 99) hx hb dX8_command_74 (by decide) (fun h9 => absurd h9 (by decide)) (fun _ => ?_)
    refine lv_iload_n hx hb dX8_command_77 rfl (lv_at hl_41 3 rfl) ?_
    refine lv_iconst (v := 3) hx hb dX8_command_78 (by decide) ?_
    refine lv_icmp_eq (tgt := 99) hx hb dX8_command_79 (by decide) (fun h9 => absurd h9 (by decide)) (fun _ => ?_)
    refine lv_iload_n hx hb dX8_command_82 rfl (lv_at hl_41 3 rfl) ?_
    refine lv_iconst (v := 4) hx hb dX8_command_83 (by decide) ?_
    refine lv_icmp_eq (tgt := 99) hx hb dX8_command_84 (by decide) (fun h9 => absurd h9 (by decide)) (fun _ => ?_)
    refine lv_iload_n hx hb dX8_command_87 rfl (lv_at hl_41 3 rfl) ?_
    refine lv_bipush (v := 6) hx hb dX8_command_88 (by decide) ?_
    refine lv_icmp_eq (tgt := 99) hx hb dX8_command_90 (by decide) (fun _ => ?_) (fun h9 => absurd h9 (by decide))
    refine lv_aload_n hx hb dX8_command_99 rfl (lv_at hl_41 4 rfl) ?_
    refine gM_isWrong C hW_35 (hwc hwX8) (mc qw_1496) dX8_command_100 ?_
    refine g_top (y := w_34 (9)) (congrFun (rd_in (by decide) (rd_in (by decide) (rd_in (by decide) rd_out))) _) ?_
    refine g_top (y := 0) kn_39 ?_
    refine lv_if_ne (tgt := 112) hx hb dX8_command_103 (by decide) (fun h9 => absurd h9 (by decide)) (fun _ => ?_)
    refine lv_aload_n hx hb dX8_command_106 rfl (lv_at hl_41 4 rfl) ?_
    refine lv_iconst (v := 1) hx hb dX8_command_107 (by decide) ?_
    refine g_calli (va_runV (As := [.int 1]) (rest := []) C.1 (cX8_behind_ok l G (setRow (setRow (setRow (setRow X 15 w_34) 24 w_10) 16 (X.1 16)) 20 (X.1 20)) p_30 L (show p_30 ≤ L by omega) hL kn_38 kn_36 kn_39 1 (by omega)) (cwV 1 C.1.2.2.2.2 (gV qw_1915 qw_1917 qw_68 qw_81 qw_1918) rfl rfl rfl (by decide +kernel) ⟨Nat.le_of_ble_eq_true rfl, Nat.le_of_ble_eq_true rfl⟩) (g_rModel C hW_35 hS_28 [.int 1]) rfl rfl hl_41.1 rfl (lv_room (Nat.le_of_ble_eq_true rfl)) dX8_command_108 ⟨Nat.zero_le _, Nat.zero_le _⟩) hS_28 (fun r_43 Y_44 H_45 locs_46 hW_47 hS_48 h_42 => ?_)
    replace h_42 : r_43 = (bhM (X.1 22) L 1 p_30).1 ∧ Y_44 = setRow (setRow (setRow (setRow (setRow X 15 w_34) 24 w_10) 16 (X.1 16)) 20 (X.1 20)) 15 (ps w_34 (bhM (X.1 22) L 1 p_30).2.1 (bhM (X.1 22) L 1 p_30).2.2) := h_42
    obtain ⟨n_49, p_50, c_51, hd_52⟩ : ∃ x9 y9 z9, bhM (X.1 22) L 1 p_30 = (x9, y9, z9) := ⟨_, _, _, rfl⟩
    rw [hd_52] at h_42
    obtain ⟨h_53, h_42⟩ := h_42
    replace h_53 : r_43 = n_49 := h_53
    subst h_53
    have hp_50 : p_50 ≤ L := bhM_le (show p_30 ≤ L by omega) hd_52
    rcases bhM_b hd_52 with hbc_51 | hbc_51
    · rw [hbc_51] at hd_52 h_42
      replace h_42 : Y_44 = setRow (setRow (setRow (setRow (setRow X 15 w_34) 24 w_10) 16 (X.1 16)) 20 (X.1 20)) 15 (ps w_34 p_50 0) := h_42
      replace h_42 : Y_44 = setRow (setRow (setRow (setRow (setRow X 15 w_34) 24 w_10) 16 (X.1 16)) 20 (X.1 20)) 15 (ps w_34 p_50 0) := h_42
      obtain ⟨w_54, ew_54⟩ : ∃ Z9, Z9 = ps w_34 p_50 0 := ⟨_, rfl⟩
      have qqw_54 : Y_44 = setRow (setRow (setRow (setRow (setRow X 15 w_34) 24 w_10) 16 (X.1 16)) 20 (X.1 20)) 15 w_54 := by rw [h_42, ew_54]
      have hW_55 : Wd G (setRow (setRow (setRow (setRow X 15 w_54) 24 w_10) 16 (X.1 16)) 20 (X.1 20)) H_45 := Wd.cast ((qqw_54).trans (congrArg (fun Z9 => Z9) (sr_in (by decide) (sr_in (by decide) (sr_in (by decide) sr_out))))) hW_47
      have kn_56 : w_54 (7) = nI L := by rw [ew_54]; exact (ps_o (by decide) (by decide)).trans kn_36
      have kn_57 : w_54 (10) = 1 := by rw [ew_54]; exact (ps_o (by decide) (by decide)).trans kn_37
      have kn_58 : w_54 (6) = nI p_50 := by rw [ew_54]; exact ps_6
      have kn_59 : w_54 (9) = 0 := by rw [ew_54]; exact ps_9
      refine lv_istore_n (lv' := [(2, .int r_43), (4, .int r_23), (3, .int 0), (1, .int 6), (0, .ref (ad G 723))]) hx hb dX8_command_111 rfl hl_41 (by decide) rfl (fun ls_60 hl_61 => ?_)
      refine lv_iload_n hx hb dX8_command_112 rfl (lv_at hl_61 3 rfl) ?_
      refine lv_iconst (v := 3) hx hb dX8_command_113 (by decide) ?_
      refine lv_icmp_ne (tgt := 130) hx hb dX8_command_114 (by decide) (fun _ => ?_) (fun h9 => absurd h9 (by decide))
      refine lv_aload_n hx hb dX8_command_130 rfl (lv_at hl_61 4 rfl) ?_
      refine gM_isWrong C hW_55 (hwc hwX8) (mc qw_1496) dX8_command_131 ?_
      refine g_top (y := w_54 (9)) (congrFun (rd_in (by decide) (rd_in (by decide) (rd_in (by decide) rd_out))) _) ?_
      refine g_top (y := 0) kn_59 ?_
      refine lv_if_ne (tgt := 144) hx hb dX8_command_134 (by decide) (fun h9 => absurd h9 (by decide)) (fun _ => ?_)
      refine lv_aload_n hx hb dX8_command_137 rfl (lv_at hl_61 4 rfl) ?_
      refine gM_isDoing C hW_55 (hwc hwX8) (mc qw_1497) dX8_command_138 ?_
      refine g_top (y := w_54 (10)) (congrFun (rd_in (by decide) (rd_in (by decide) (rd_in (by decide) rd_out))) _) ?_
      refine g_top (y := 1) kn_57 ?_
      refine lv_if_ne (tgt := 145) hx hb dX8_command_141 (by decide) (fun _ => ?_) (fun h9 => absurd h9 (by decide))
      refine lv_aload_n hx hb dX8_command_145 rfl (lv_at hl_61 4 rfl) ?_
      refine lv_iload_n hx hb dX8_command_146 rfl (lv_at hl_61 3 rfl) ?_
      refine lv_iload hx hb dX8_command_147 (lv_at hl_61 1 rfl) ?_
      refine lv_iload_n hx hb dX8_command_149 rfl (lv_at hl_61 0 rfl) ?_
      refine lv_iload_n hx hb dX8_command_150 rfl (lv_at hl_61 2 rfl) ?_
      refine g_calli (va_runV (As := [.int 6, .int r_23, .int r_43, .int 0]) (rest := []) C.1 (cX8_does6_ok l G (setRow (setRow (setRow (setRow X 15 w_54) 24 w_10) 16 (X.1 16)) 20 (X.1 20)) r_23 r_43 0 hm) (cwV 4 C.1.2.2.2.2 (gV qw_1919 qw_1921 qw_69 qw_81 qw_1922) rfl rfl rfl (by decide +kernel) ⟨Nat.le_of_ble_eq_true rfl, Nat.le_of_ble_eq_true rfl⟩) (g_rModel C hW_55 hS_48 [.int 6, .int r_23, .int r_43, .int 0]) rfl rfl hl_61.1 rfl (lv_room (Nat.le_of_ble_eq_true rfl)) dX8_command_151 ⟨Nat.zero_le _, Nat.zero_le _⟩) hS_48 (fun r_63 Y_64 H_65 locs_66 hW_67 hS_68 h_62 => ?_)
      replace h_62 : Y_64 = setRow (setRow (setRow (setRow (setRow (setRow (setRow X 15 w_54) 24 w_10) 16 (X.1 16)) 20 (X.1 20)) 15 ((doM 6 w_54 (X.1 16) (X.1 20) (X.1 21) r_23 r_43 0).1)) 16 ((doM 6 w_54 (X.1 16) (X.1 20) (X.1 21) r_23 r_43 0).2.1)) 20 ((doM 6 w_54 (X.1 16) (X.1 20) (X.1 21) r_23 r_43 0).2.2) := h_62
      obtain ⟨w_69, ew_69⟩ : ∃ Z9, Z9 = (doM 6 w_54 (X.1 16) (X.1 20) (X.1 21) r_23 r_43 0).1 := ⟨_, rfl⟩
      obtain ⟨w_70, ew_70⟩ : ∃ Z9, Z9 = (doM 6 w_54 (X.1 16) (X.1 20) (X.1 21) r_23 r_43 0).2.1 := ⟨_, rfl⟩
      obtain ⟨w_71, ew_71⟩ : ∃ Z9, Z9 = (doM 6 w_54 (X.1 16) (X.1 20) (X.1 21) r_23 r_43 0).2.2 := ⟨_, rfl⟩
      have qqw_69 : Y_64 = setRow (setRow (setRow (setRow (setRow (setRow (setRow X 15 w_54) 24 w_10) 16 (X.1 16)) 20 (X.1 20)) 15 w_69) 16 w_70) 20 w_71 := by rw [h_62, ew_69, ew_70, ew_71]
      have hW_72 : Wd G (setRow (setRow (setRow (setRow X 15 w_69) 24 w_10) 16 w_70) 20 w_71) H_65 := Wd.cast ((((qqw_69).trans (congrArg (fun Z9 => setRow (setRow (Z9) 16 w_70) 20 w_71) (sr_in (by decide) (sr_in (by decide) (sr_in (by decide) sr_out))))).trans (congrArg (fun Z9 => setRow (Z9) 20 w_71) (sr_in (by decide) sr_out))).trans (congrArg (fun Z9 => Z9) sr_out)) hW_67
      refine lv_istore (lv' := [(5, .int r_63), (2, .int r_43), (4, .int r_23), (3, .int 0), (1, .int 6), (0, .ref (ad G 723))]) hx hb dX8_command_154 hl_61 (by decide) rfl (fun ls_73 hl_74 => ?_)
      exact g_vret C hr hlk hW_72 hS_68 dX8_command_156 (by subst ew_71; subst ew_70; subst ew_69; subst ew_54; subst ew_34; subst ew_10; subst ew_9; simp only [caA, caB, hd_32, hd_52, if_true, if_false, ps_ps, Nat.one_ne_zero])
    · rw [hbc_51] at hd_52 h_42
      replace h_42 : Y_44 = setRow (setRow (setRow (setRow (setRow X 15 w_34) 24 w_10) 16 (X.1 16)) 20 (X.1 20)) 15 (ps w_34 p_50 1) := h_42
      replace h_42 : Y_44 = setRow (setRow (setRow (setRow (setRow X 15 w_34) 24 w_10) 16 (X.1 16)) 20 (X.1 20)) 15 (ps w_34 p_50 1) := h_42
      obtain ⟨w_75, ew_75⟩ : ∃ Z9, Z9 = ps w_34 p_50 1 := ⟨_, rfl⟩
      have qqw_75 : Y_44 = setRow (setRow (setRow (setRow (setRow X 15 w_34) 24 w_10) 16 (X.1 16)) 20 (X.1 20)) 15 w_75 := by rw [h_42, ew_75]
      have hW_76 : Wd G (setRow (setRow (setRow (setRow X 15 w_75) 24 w_10) 16 (X.1 16)) 20 (X.1 20)) H_45 := Wd.cast ((qqw_75).trans (congrArg (fun Z9 => Z9) (sr_in (by decide) (sr_in (by decide) (sr_in (by decide) sr_out))))) hW_47
      have kn_77 : w_75 (7) = nI L := by rw [ew_75]; exact (ps_o (by decide) (by decide)).trans kn_36
      have kn_78 : w_75 (10) = 1 := by rw [ew_75]; exact (ps_o (by decide) (by decide)).trans kn_37
      have kn_79 : w_75 (6) = nI p_50 := by rw [ew_75]; exact ps_6
      have kn_80 : w_75 (9) = 1 := by rw [ew_75]; exact ps_9
      refine lv_istore_n (lv' := [(2, .int r_43), (4, .int r_23), (3, .int 0), (1, .int 6), (0, .ref (ad G 723))]) hx hb dX8_command_111 rfl hl_41 (by decide) rfl (fun ls_81 hl_82 => ?_)
      refine lv_iload_n hx hb dX8_command_112 rfl (lv_at hl_82 3 rfl) ?_
      refine lv_iconst (v := 3) hx hb dX8_command_113 (by decide) ?_
      refine lv_icmp_ne (tgt := 130) hx hb dX8_command_114 (by decide) (fun _ => ?_) (fun h9 => absurd h9 (by decide))
      refine lv_aload_n hx hb dX8_command_130 rfl (lv_at hl_82 4 rfl) ?_
      refine gM_isWrong C hW_76 (hwc hwX8) (mc qw_1496) dX8_command_131 ?_
      refine g_top (y := w_75 (9)) (congrFun (rd_in (by decide) (rd_in (by decide) (rd_in (by decide) rd_out))) _) ?_
      refine g_top (y := 1) kn_80 ?_
      refine lv_if_ne (tgt := 144) hx hb dX8_command_134 (by decide) (fun _ => ?_) (fun h9 => absurd h9 (by decide))
      exact g_vret C hr hlk hW_76 hS_48 dX8_command_144 (absurd hok (by simp only [caA, caB, hd_32, hd_52, if_true, if_false, ps_ps, Nat.one_ne_zero, not_false_eq_true]))
  · rw [hbc_31] at hd_32 h_22
    replace h_22 : Y_24 = setRow (setRow (setRow (setRow (setRow X 15 w_9) 24 w_10) 16 (X.1 16)) 20 (X.1 20)) 15 (ps w_9 p_30 1) := h_22
    replace h_22 : Y_24 = setRow (setRow (setRow (setRow (setRow X 15 w_9) 24 w_10) 16 (X.1 16)) 20 (X.1 20)) 15 (ps w_9 p_30 1) := h_22
    obtain ⟨w_83, ew_83⟩ : ∃ Z9, Z9 = ps w_9 p_30 1 := ⟨_, rfl⟩
    have qqw_83 : Y_24 = setRow (setRow (setRow (setRow (setRow X 15 w_9) 24 w_10) 16 (X.1 16)) 20 (X.1 20)) 15 w_83 := by rw [h_22, ew_83]
    have hW_84 : Wd G (setRow (setRow (setRow (setRow X 15 w_83) 24 w_10) 16 (X.1 16)) 20 (X.1 20)) H_25 := Wd.cast ((qqw_83).trans (congrArg (fun Z9 => Z9) (sr_in (by decide) (sr_in (by decide) (sr_in (by decide) sr_out))))) hW_27
    have kn_85 : w_83 (7) = nI L := by rw [ew_83]; exact (ps_o (by decide) (by decide)).trans kn_12
    have kn_86 : w_83 (10) = 1 := by rw [ew_83]; exact (ps_o (by decide) (by decide)).trans kn_13
    have kn_87 : w_83 (6) = nI p_30 := by rw [ew_83]; exact ps_6
    have kn_88 : w_83 (9) = 1 := by rw [ew_83]; exact ps_9
    refine lv_istore (lv' := [(4, .int r_23), (3, .int 0), (2, .int 0), (1, .int 6), (0, .ref (ad G 723))]) hx hb dX8_command_37 hl_21 (by decide) rfl (fun ls_89 hl_90 => ?_)
    refine lv_iload_n hx hb dX8_command_39 rfl (lv_at hl_90 3 rfl) ?_
    refine lv_if_ne (tgt := 55) hx hb dX8_command_40 (by decide) (fun _ => ?_) (fun h9 => absurd h9 (by decide))
    refine lv_iload_n hx hb dX8_command_55 rfl (lv_at hl_90 3 rfl) ?_
    refine lv_if_ne (tgt := 72) hx hb dX8_command_56 (by decide) (fun _ => ?_) (fun h9 => absurd h9 (by decide))
    refine lv_iload_n hx hb dX8_command_72 rfl (lv_at hl_90 3 rfl) ?_
    refine lv_iconst (v := 1) hx hb dX8_command_73 (by decide) ?_
    refine lv_icmp_eq (tgt := 99) hx hb dX8_command_74 (by decide) (fun h9 => absurd h9 (by decide)) (fun _ => ?_)
    refine lv_iload_n hx hb dX8_command_77 rfl (lv_at hl_90 3 rfl) ?_
    refine lv_iconst (v := 3) hx hb dX8_command_78 (by decide) ?_
    refine lv_icmp_eq (tgt := 99) hx hb dX8_command_79 (by decide) (fun h9 => absurd h9 (by decide)) (fun _ => ?_)
    refine lv_iload_n hx hb dX8_command_82 rfl (lv_at hl_90 3 rfl) ?_
    refine lv_iconst (v := 4) hx hb dX8_command_83 (by decide) ?_
    refine lv_icmp_eq (tgt := 99) hx hb dX8_command_84 (by decide) (fun h9 => absurd h9 (by decide)) (fun _ => ?_)
    refine lv_iload_n hx hb dX8_command_87 rfl (lv_at hl_90 3 rfl) ?_
    refine lv_bipush (v := 6) hx hb dX8_command_88 (by decide) ?_
    refine lv_icmp_eq (tgt := 99) hx hb dX8_command_90 (by decide) (fun _ => ?_) (fun h9 => absurd h9 (by decide))
    refine lv_aload_n hx hb dX8_command_99 rfl (lv_at hl_90 4 rfl) ?_
    refine gM_isWrong C hW_84 (hwc hwX8) (mc qw_1496) dX8_command_100 ?_
    refine g_top (y := w_83 (9)) (congrFun (rd_in (by decide) (rd_in (by decide) (rd_in (by decide) rd_out))) _) ?_
    refine g_top (y := 1) kn_88 ?_
    refine lv_if_ne (tgt := 112) hx hb dX8_command_103 (by decide) (fun _ => ?_) (fun h9 => absurd h9 (by decide))
    refine lv_iload_n hx hb dX8_command_112 rfl (lv_at hl_90 3 rfl) ?_
    refine lv_iconst (v := 3) hx hb dX8_command_113 (by decide) ?_
    refine lv_icmp_ne (tgt := 130) hx hb dX8_command_114 (by decide) (fun _ => ?_) (fun h9 => absurd h9 (by decide))
    refine lv_aload_n hx hb dX8_command_130 rfl (lv_at hl_90 4 rfl) ?_
    refine gM_isWrong C hW_84 (hwc hwX8) (mc qw_1496) dX8_command_131 ?_
    refine g_top (y := w_83 (9)) (congrFun (rd_in (by decide) (rd_in (by decide) (rd_in (by decide) rd_out))) _) ?_
    refine g_top (y := 1) kn_88 ?_
    refine lv_if_ne (tgt := 144) hx hb dX8_command_134 (by decide) (fun _ => ?_) (fun h9 => absurd h9 (by decide))
    exact g_vret C hr hlk hW_84 hS_28 dX8_command_144 (absurd hok (by simp only [caA, caB, hd_32, if_true, if_false, ps_ps, Nat.one_ne_zero, not_false_eq_true]))

set_option maxHeartbeats 4000000 in
set_option maxRecDepth 100000 in
theorem cX8_command17_ok (l : Launch) (G : GT) (X : St) (pp L : Nat) (hp : pp ≤ L) (hL : L ≤ 60) (e6 : X.1 15 6 = nI pp) (e7 : X.1 15 7 = nI L) (e9 : X.1 15 9 = 0) (hwd : WdOk (X.1 25) (X.1 26)) (e10 : X.1 15 10 = 1) (p1 : Nat) (hp1 : p1 ≤ L) (z1 : Nat → Int32) (hw9 : wdM (X.1 22) L pp (X.1 24) = (7, p1, 0, z1)) (hm : MInv (X.1 16)) (hok : (ca2 (X.1 22) L p1).2.2.2.2 = 0) : MetV l G yX8_command (wsG yX8_command cX8_command 6 none) (rmz 5 114) [.ref (ad G 723)] X (fun Y => Y = setRow (setRow (setRow (setRow X 15 (doM 7 (ps (X.1 15) (ca2 (X.1 22) L p1).2.2.2.1 0) (X.1 16) (X.1 20) (X.1 21) (ca2 (X.1 22) L p1).1 (ca2 (X.1 22) L p1).2.1 (ca2 (X.1 22) L p1).2.2.1).1) 24 z1) 16 (doM 7 (ps (X.1 15) (ca2 (X.1 22) L p1).2.2.2.1 0) (X.1 16) (X.1 20) (X.1 21) (ca2 (X.1 22) L p1).1 (ca2 (X.1 22) L p1).2.1 (ca2 (X.1 22) L p1).2.2.1).2.1) 20 (doM 7 (ps (X.1 15) (ca2 (X.1 22) L p1).2.2.2.1 0) (X.1 16) (X.1 20) (X.1 21) (ca2 (X.1 22) L p1).1 (ca2 (X.1 22) L p1).2.1 (ca2 (X.1 22) L p1).2.2.1).2.2) := by
  refine g_met (cc := cX8_command) (maxL := 6) (ret := none) (by decide) rfl (Nat.le_of_ble_eq_true rfl) ?_
  intro p e s m below meth c ls C hr hlk hnm hW hl
  have hx := C.1.1
  have hb := C.1.2.1
  have hS : va_S (Ab G) s.heap s.heap [] := va_S.rf
  have hl : lv_has ls 6 [(0, .ref (ad G 723))] := hl
  have hW : Wd G (setRow (setRow (setRow (setRow (X) 15 (X.1 15)) 24 (X.1 24)) 16 (X.1 16)) 20 (X.1 20)) s.heap := Wd.cast (((((sr_same (X := setRow (setRow (setRow (X) 15 (X.1 15)) 24 (X.1 24)) 16 (X.1 16)) (r := 20) rfl).trans (sr_same (X := setRow (setRow (X) 15 (X.1 15)) 24 (X.1 24)) (r := 16) rfl)).trans (sr_same (X := setRow (X) 15 (X.1 15)) (r := 24) rfl)).trans (sr_same (X := X) (r := 15) rfl))).symm hW
  refine lv_aload_n hx hb dX8_command_0 rfl (lv_at hl 0 rfl) ?_
  refine g_calli (va_runV (As := []) (rest := []) C.1 (cX8_word_ok l G (setRow (setRow (setRow (setRow X 15 (X.1 15)) 24 (X.1 24)) 16 (X.1 16)) 20 (X.1 20)) pp L (show pp ≤ L by omega) hL e6 e7 e9 hwd) (cwV 0 C.1.2.2.2.2 (gV qw_1895 qw_1897 qw_63 qw_81 qw_1898) rfl rfl rfl (by decide +kernel) ⟨Nat.le_of_ble_eq_true rfl, Nat.le_of_ble_eq_true rfl⟩) (g_rModel C hW hS []) rfl rfl hl.1 rfl (lv_room (Nat.le_of_ble_eq_true rfl)) dX8_command_1 ⟨Nat.zero_le _, Nat.zero_le _⟩) hS (fun r_2 Y_3 H_4 locs_5 hW_6 hS_7 h_1 => ?_)
  replace h_1 : r_2 = (wdM (X.1 22) L pp (X.1 24)).1 ∧ Y_3 = setRow (setRow (setRow (setRow (setRow (setRow X 15 (X.1 15)) 24 (X.1 24)) 16 (X.1 16)) 20 (X.1 20)) 15 (ps (X.1 15) (wdM (X.1 22) L pp (X.1 24)).2.1 (wdM (X.1 22) L pp (X.1 24)).2.2.1)) 24 (wdM (X.1 22) L pp (X.1 24)).2.2.2 := h_1
  rw [hw9] at h_1
  obtain ⟨h_8, h_1⟩ := h_1
  replace h_8 : r_2 = 7 := h_8
  subst h_8
  replace h_1 : Y_3 = setRow (setRow (setRow (setRow (setRow (setRow X 15 (X.1 15)) 24 (X.1 24)) 16 (X.1 16)) 20 (X.1 20)) 15 (ps (X.1 15) p1 0)) 24 z1 := h_1
  replace h_1 : Y_3 = setRow (setRow (setRow (setRow (setRow (setRow X 15 (X.1 15)) 24 (X.1 24)) 16 (X.1 16)) 20 (X.1 20)) 15 (ps (X.1 15) p1 0)) 24 z1 := h_1
  obtain ⟨w_9, ew_9⟩ : ∃ Z9, Z9 = ps (X.1 15) p1 0 := ⟨_, rfl⟩
  obtain ⟨w_10, ew_10⟩ : ∃ Z9, Z9 = z1 := ⟨_, rfl⟩
  have qqw_9 : Y_3 = setRow (setRow (setRow (setRow (setRow (setRow X 15 (X.1 15)) 24 (X.1 24)) 16 (X.1 16)) 20 (X.1 20)) 15 w_9) 24 w_10 := by rw [h_1, ew_9, ew_10]
  have hW_11 : Wd G (setRow (setRow (setRow (setRow X 15 w_9) 24 w_10) 16 (X.1 16)) 20 (X.1 20)) H_4 := Wd.cast (((qqw_9).trans (congrArg (fun Z9 => setRow (Z9) 24 w_10) (sr_in (by decide) (sr_in (by decide) (sr_in (by decide) sr_out))))).trans (congrArg (fun Z9 => Z9) (sr_in (by decide) (sr_in (by decide) sr_out)))) hW_6
  have kn_12 : w_9 (7) = nI L := by rw [ew_9]; exact (ps_o (by decide) (by decide)).trans e7
  have kn_13 : w_9 (10) = 1 := by rw [ew_9]; exact (ps_o (by decide) (by decide)).trans e10
  have kn_14 : w_9 (6) = nI p1 := by rw [ew_9]; exact ps_6
  have kn_15 : w_9 (9) = 0 := by rw [ew_9]; exact ps_9
  refine lv_istore_n (lv' := [(1, .int 7), (0, .ref (ad G 723))]) hx hb dX8_command_4 rfl hl (by decide) rfl (fun ls_16 hl_17 => ?_)
  refine lv_iconst (v := 0) hx hb dX8_command_5 (by decide) ?_
  refine lv_istore_n (lv' := [(2, .int 0), (1, .int 7), (0, .ref (ad G 723))]) hx hb dX8_command_6 rfl hl_17 (by decide) rfl (fun ls_18 hl_19 => ?_)
  refine lv_iconst (v := 0) hx hb dX8_command_7 (by decide) ?_
  refine lv_istore_n (lv' := [(3, .int 0), (2, .int 0), (1, .int 7), (0, .ref (ad G 723))]) hx hb dX8_command_8 rfl hl_19 (by decide) rfl (fun ls_20 hl_21 => ?_)
  refine lv_aload_n hx hb dX8_command_9 rfl (lv_at hl_21 3 rfl) ?_
  refine gM_isWrong C hW_11 (hwc hwX8) (mc qw_1496) dX8_command_10 ?_
  refine g_top (y := w_9 (9)) (congrFun (rd_in (by decide) (rd_in (by decide) (rd_in (by decide) rd_out))) _) ?_
  refine g_top (y := 0) kn_15 ?_
  refine lv_if_eq (tgt := 17) hx hb dX8_command_13 (by decide) (fun _ => ?_) (fun h9 => absurd h9 (by decide))
  refine lv_aload_n hx hb dX8_command_17 rfl (lv_at hl_21 3 rfl) ?_
  refine lv_iload_n hx hb dX8_command_18 rfl (lv_at hl_21 2 rfl) ?_
  refine lv_iconst (v := 5) hx hb dX8_command_19 (by decide) ?_
  refine lv_icmp_eq (tgt := 29) hx hb dX8_command_20 (by decide) (fun h9 => absurd h9 (by decide)) (fun _ => ?_)
  refine lv_iload_n hx hb dX8_command_23 rfl (lv_at hl_21 2 rfl) ?_
  refine lv_bipush (v := 8) hx hb dX8_command_24 (by decide) ?_
  refine lv_icmp_lt (tgt := 33) hx hb dX8_command_26 (by decide) (fun _ => ?_) (fun h9 => absurd h9 (by decide))
  refine lv_iconst (v := 1) hx hb dX8_command_33 (by decide) ?_
  refine g_calli (va_runV (As := [.int 1]) (rest := []) C.1 (cX8_digits_ok l G (setRow (setRow (setRow (setRow X 15 w_9) 24 w_10) 16 (X.1 16)) 20 (X.1 20)) p1 L (show p1 ≤ L by omega) hL kn_14 kn_12 kn_15 1 (by omega)) (cwV 1 C.1.2.2.2.2 (gV qw_1903 qw_1905 qw_65 qw_81 qw_1906) rfl rfl rfl (by decide +kernel) ⟨Nat.le_of_ble_eq_true rfl, Nat.le_of_ble_eq_true rfl⟩) (g_rModel C hW_11 hS_7 [.int 1]) rfl rfl hl_21.1 rfl (lv_room (Nat.le_of_ble_eq_true rfl)) dX8_command_34 ⟨Nat.zero_le _, Nat.zero_le _⟩) hS_7 (fun r_23 Y_24 H_25 locs_26 hW_27 hS_28 h_22 => ?_)
  replace h_22 : r_23 = (dgM (X.1 22) L 1 p1).1 ∧ Y_24 = setRow (setRow (setRow (setRow (setRow X 15 w_9) 24 w_10) 16 (X.1 16)) 20 (X.1 20)) 15 (ps w_9 (dgM (X.1 22) L 1 p1).2.1 (dgM (X.1 22) L 1 p1).2.2) := h_22
  obtain ⟨n_29, p_30, c_31, hd_32⟩ : ∃ x9 y9 z9, dgM (X.1 22) L 1 p1 = (x9, y9, z9) := ⟨_, _, _, rfl⟩
  rw [hd_32] at h_22
  obtain ⟨h_33, h_22⟩ := h_22
  replace h_33 : r_23 = n_29 := h_33
  subst h_33
  have hp_30 : p_30 ≤ L := dgM_le (show p1 ≤ L by omega) hd_32
  rcases dgM_b hd_32 with hbc_31 | hbc_31
  · rw [hbc_31] at hd_32 h_22
    replace h_22 : Y_24 = setRow (setRow (setRow (setRow (setRow X 15 w_9) 24 w_10) 16 (X.1 16)) 20 (X.1 20)) 15 (ps w_9 p_30 0) := h_22
    replace h_22 : Y_24 = setRow (setRow (setRow (setRow (setRow X 15 w_9) 24 w_10) 16 (X.1 16)) 20 (X.1 20)) 15 (ps w_9 p_30 0) := h_22
    obtain ⟨w_34, ew_34⟩ : ∃ Z9, Z9 = ps w_9 p_30 0 := ⟨_, rfl⟩
    have qqw_34 : Y_24 = setRow (setRow (setRow (setRow (setRow X 15 w_9) 24 w_10) 16 (X.1 16)) 20 (X.1 20)) 15 w_34 := by rw [h_22, ew_34]
    have hW_35 : Wd G (setRow (setRow (setRow (setRow X 15 w_34) 24 w_10) 16 (X.1 16)) 20 (X.1 20)) H_25 := Wd.cast ((qqw_34).trans (congrArg (fun Z9 => Z9) (sr_in (by decide) (sr_in (by decide) (sr_in (by decide) sr_out))))) hW_27
    have kn_36 : w_34 (7) = nI L := by rw [ew_34]; exact (ps_o (by decide) (by decide)).trans kn_12
    have kn_37 : w_34 (10) = 1 := by rw [ew_34]; exact (ps_o (by decide) (by decide)).trans kn_13
    have kn_38 : w_34 (6) = nI p_30 := by rw [ew_34]; exact ps_6
    have kn_39 : w_34 (9) = 0 := by rw [ew_34]; exact ps_9
    refine lv_istore (lv' := [(4, .int r_23), (3, .int 0), (2, .int 0), (1, .int 7), (0, .ref (ad G 723))]) hx hb dX8_command_37 hl_21 (by decide) rfl (fun ls_40 hl_41 => ?_)
    refine lv_iload_n hx hb dX8_command_39 rfl (lv_at hl_41 3 rfl) ?_
    refine lv_if_ne (tgt := 55) hx hb dX8_command_40 (by decide) (fun _ => ?_) (fun h9 => absurd h9 (by decide))
    refine lv_iload_n hx hb dX8_command_55 rfl (lv_at hl_41 3 rfl) ?_
    refine lv_if_ne (tgt := 72) hx hb dX8_command_56 (by decide) (fun _ => ?_) (fun h9 => absurd h9 (by decide))
    refine lv_iload_n hx hb dX8_command_72 rfl (lv_at hl_41 3 rfl) ?_
    refine lv_iconst (v := 1) hx hb dX8_command_73 (by decide) ?_
    refine lv_icmp_eq (tgt := 99) hx hb dX8_command_74 (by decide) (fun h9 => absurd h9 (by decide)) (fun _ => ?_)
    refine lv_iload_n hx hb dX8_command_77 rfl (lv_at hl_41 3 rfl) ?_
    refine lv_iconst (v := 3) hx hb dX8_command_78 (by decide) ?_
    refine lv_icmp_eq (tgt := 99) hx hb dX8_command_79 (by decide) (fun h9 => absurd h9 (by decide)) (fun _ => ?_)
    refine lv_iload_n hx hb dX8_command_82 rfl (lv_at hl_41 3 rfl) ?_
    refine lv_iconst (v := 4) hx hb dX8_command_83 (by decide) ?_
    refine lv_icmp_eq (tgt := 99) hx hb dX8_command_84 (by decide) (fun h9 => absurd h9 (by decide)) (fun _ => ?_)
    refine lv_iload_n hx hb dX8_command_87 rfl (lv_at hl_41 3 rfl) ?_
    refine lv_bipush (v := 6) hx hb dX8_command_88 (by decide) ?_
    refine lv_icmp_eq (tgt := 99) hx hb dX8_command_90 (by decide) (fun h9 => absurd h9 (by decide)) (fun _ => ?_)
    refine lv_iload_n hx hb dX8_command_93 rfl (lv_at hl_41 3 rfl) ?_
    refine lv_bipush (v := 8) hx hb dX8_command_94 (by decide) ?_
    refine lv_icmp_ne (tgt := 112) hx hb dX8_command_96 (by decide) (fun _ => ?_) (fun h9 => absurd h9 (by decide))
    refine lv_iload_n hx hb dX8_command_112 rfl (lv_at hl_41 3 rfl) ?_
    refine lv_iconst (v := 3) hx hb dX8_command_113 (by decide) ?_
    refine lv_icmp_ne (tgt := 130) hx hb dX8_command_114 (by decide) (fun _ => ?_) (fun h9 => absurd h9 (by decide))
    refine lv_aload_n hx hb dX8_command_130 rfl (lv_at hl_41 4 rfl) ?_
    refine gM_isWrong C hW_35 (hwc hwX8) (mc qw_1496) dX8_command_131 ?_
    refine g_top (y := w_34 (9)) (congrFun (rd_in (by decide) (rd_in (by decide) (rd_in (by decide) rd_out))) _) ?_
    refine g_top (y := 0) kn_39 ?_
    refine lv_if_ne (tgt := 144) hx hb dX8_command_134 (by decide) (fun h9 => absurd h9 (by decide)) (fun _ => ?_)
    refine lv_aload_n hx hb dX8_command_137 rfl (lv_at hl_41 4 rfl) ?_
    refine gM_isDoing C hW_35 (hwc hwX8) (mc qw_1497) dX8_command_138 ?_
    refine g_top (y := w_34 (10)) (congrFun (rd_in (by decide) (rd_in (by decide) (rd_in (by decide) rd_out))) _) ?_
    refine g_top (y := 1) kn_37 ?_
    refine lv_if_ne (tgt := 145) hx hb dX8_command_141 (by decide) (fun _ => ?_) (fun h9 => absurd h9 (by decide))
    refine lv_aload_n hx hb dX8_command_145 rfl (lv_at hl_41 4 rfl) ?_
    refine lv_iload_n hx hb dX8_command_146 rfl (lv_at hl_41 3 rfl) ?_
    refine lv_iload hx hb dX8_command_147 (lv_at hl_41 0 rfl) ?_
    refine lv_iload_n hx hb dX8_command_149 rfl (lv_at hl_41 2 rfl) ?_
    refine lv_iload_n hx hb dX8_command_150 rfl (lv_at hl_41 1 rfl) ?_
    refine g_calli (va_runV (As := [.int 7, .int r_23, .int 0, .int 0]) (rest := []) C.1 (cX8_does7_ok l G (setRow (setRow (setRow (setRow X 15 w_34) 24 w_10) 16 (X.1 16)) 20 (X.1 20)) r_23 0 0 hm) (cwV 4 C.1.2.2.2.2 (gV qw_1919 qw_1921 qw_69 qw_81 qw_1922) rfl rfl rfl (by decide +kernel) ⟨Nat.le_of_ble_eq_true rfl, Nat.le_of_ble_eq_true rfl⟩) (g_rModel C hW_35 hS_28 [.int 7, .int r_23, .int 0, .int 0]) rfl rfl hl_41.1 rfl (lv_room (Nat.le_of_ble_eq_true rfl)) dX8_command_151 ⟨Nat.zero_le _, Nat.zero_le _⟩) hS_28 (fun r_43 Y_44 H_45 locs_46 hW_47 hS_48 h_42 => ?_)
    replace h_42 : Y_44 = setRow (setRow (setRow (setRow (setRow (setRow (setRow X 15 w_34) 24 w_10) 16 (X.1 16)) 20 (X.1 20)) 15 ((doM 7 w_34 (X.1 16) (X.1 20) (X.1 21) r_23 0 0).1)) 16 ((doM 7 w_34 (X.1 16) (X.1 20) (X.1 21) r_23 0 0).2.1)) 20 ((doM 7 w_34 (X.1 16) (X.1 20) (X.1 21) r_23 0 0).2.2) := h_42
    obtain ⟨w_49, ew_49⟩ : ∃ Z9, Z9 = (doM 7 w_34 (X.1 16) (X.1 20) (X.1 21) r_23 0 0).1 := ⟨_, rfl⟩
    obtain ⟨w_50, ew_50⟩ : ∃ Z9, Z9 = (doM 7 w_34 (X.1 16) (X.1 20) (X.1 21) r_23 0 0).2.1 := ⟨_, rfl⟩
    obtain ⟨w_51, ew_51⟩ : ∃ Z9, Z9 = (doM 7 w_34 (X.1 16) (X.1 20) (X.1 21) r_23 0 0).2.2 := ⟨_, rfl⟩
    have qqw_49 : Y_44 = setRow (setRow (setRow (setRow (setRow (setRow (setRow X 15 w_34) 24 w_10) 16 (X.1 16)) 20 (X.1 20)) 15 w_49) 16 w_50) 20 w_51 := by rw [h_42, ew_49, ew_50, ew_51]
    have hW_52 : Wd G (setRow (setRow (setRow (setRow X 15 w_49) 24 w_10) 16 w_50) 20 w_51) H_45 := Wd.cast ((((qqw_49).trans (congrArg (fun Z9 => setRow (setRow (Z9) 16 w_50) 20 w_51) (sr_in (by decide) (sr_in (by decide) (sr_in (by decide) sr_out))))).trans (congrArg (fun Z9 => setRow (Z9) 20 w_51) (sr_in (by decide) sr_out))).trans (congrArg (fun Z9 => Z9) sr_out)) hW_47
    refine lv_istore (lv' := [(5, .int r_43), (4, .int r_23), (3, .int 0), (2, .int 0), (1, .int 7), (0, .ref (ad G 723))]) hx hb dX8_command_154 hl_41 (by decide) rfl (fun ls_53 hl_54 => ?_)
    exact g_vret C hr hlk hW_52 hS_48 dX8_command_156 (by subst ew_51; subst ew_50; subst ew_49; subst ew_34; subst ew_10; subst ew_9; simp only [ca2, hd_32, if_true, if_false, ps_ps, Nat.one_ne_zero])
  · rw [hbc_31] at hd_32 h_22
    replace h_22 : Y_24 = setRow (setRow (setRow (setRow (setRow X 15 w_9) 24 w_10) 16 (X.1 16)) 20 (X.1 20)) 15 (ps w_9 p_30 1) := h_22
    replace h_22 : Y_24 = setRow (setRow (setRow (setRow (setRow X 15 w_9) 24 w_10) 16 (X.1 16)) 20 (X.1 20)) 15 (ps w_9 p_30 1) := h_22
    obtain ⟨w_55, ew_55⟩ : ∃ Z9, Z9 = ps w_9 p_30 1 := ⟨_, rfl⟩
    have qqw_55 : Y_24 = setRow (setRow (setRow (setRow (setRow X 15 w_9) 24 w_10) 16 (X.1 16)) 20 (X.1 20)) 15 w_55 := by rw [h_22, ew_55]
    have hW_56 : Wd G (setRow (setRow (setRow (setRow X 15 w_55) 24 w_10) 16 (X.1 16)) 20 (X.1 20)) H_25 := Wd.cast ((qqw_55).trans (congrArg (fun Z9 => Z9) (sr_in (by decide) (sr_in (by decide) (sr_in (by decide) sr_out))))) hW_27
    have kn_57 : w_55 (7) = nI L := by rw [ew_55]; exact (ps_o (by decide) (by decide)).trans kn_12
    have kn_58 : w_55 (10) = 1 := by rw [ew_55]; exact (ps_o (by decide) (by decide)).trans kn_13
    have kn_59 : w_55 (6) = nI p_30 := by rw [ew_55]; exact ps_6
    have kn_60 : w_55 (9) = 1 := by rw [ew_55]; exact ps_9
    refine lv_istore (lv' := [(4, .int r_23), (3, .int 0), (2, .int 0), (1, .int 7), (0, .ref (ad G 723))]) hx hb dX8_command_37 hl_21 (by decide) rfl (fun ls_61 hl_62 => ?_)
    refine lv_iload_n hx hb dX8_command_39 rfl (lv_at hl_62 3 rfl) ?_
    refine lv_if_ne (tgt := 55) hx hb dX8_command_40 (by decide) (fun _ => ?_) (fun h9 => absurd h9 (by decide))
    refine lv_iload_n hx hb dX8_command_55 rfl (lv_at hl_62 3 rfl) ?_
    refine lv_if_ne (tgt := 72) hx hb dX8_command_56 (by decide) (fun _ => ?_) (fun h9 => absurd h9 (by decide))
    refine lv_iload_n hx hb dX8_command_72 rfl (lv_at hl_62 3 rfl) ?_
    refine lv_iconst (v := 1) hx hb dX8_command_73 (by decide) ?_
    refine lv_icmp_eq (tgt := 99) hx hb dX8_command_74 (by decide) (fun h9 => absurd h9 (by decide)) (fun _ => ?_)
    refine lv_iload_n hx hb dX8_command_77 rfl (lv_at hl_62 3 rfl) ?_
    refine lv_iconst (v := 3) hx hb dX8_command_78 (by decide) ?_
    refine lv_icmp_eq (tgt := 99) hx hb dX8_command_79 (by decide) (fun h9 => absurd h9 (by decide)) (fun _ => ?_)
    refine lv_iload_n hx hb dX8_command_82 rfl (lv_at hl_62 3 rfl) ?_
    refine lv_iconst (v := 4) hx hb dX8_command_83 (by decide) ?_
    refine lv_icmp_eq (tgt := 99) hx hb dX8_command_84 (by decide) (fun h9 => absurd h9 (by decide)) (fun _ => ?_)
    refine lv_iload_n hx hb dX8_command_87 rfl (lv_at hl_62 3 rfl) ?_
    refine lv_bipush (v := 6) hx hb dX8_command_88 (by decide) ?_
    refine lv_icmp_eq (tgt := 99) hx hb dX8_command_90 (by decide) (fun h9 => absurd h9 (by decide)) (fun _ => ?_)
    refine lv_iload_n hx hb dX8_command_93 rfl (lv_at hl_62 3 rfl) ?_
    refine lv_bipush (v := 8) hx hb dX8_command_94 (by decide) ?_
    refine lv_icmp_ne (tgt := 112) hx hb dX8_command_96 (by decide) (fun _ => ?_) (fun h9 => absurd h9 (by decide))
    refine lv_iload_n hx hb dX8_command_112 rfl (lv_at hl_62 3 rfl) ?_
    refine lv_iconst (v := 3) hx hb dX8_command_113 (by decide) ?_
    refine lv_icmp_ne (tgt := 130) hx hb dX8_command_114 (by decide) (fun _ => ?_) (fun h9 => absurd h9 (by decide))
    refine lv_aload_n hx hb dX8_command_130 rfl (lv_at hl_62 4 rfl) ?_
    refine gM_isWrong C hW_56 (hwc hwX8) (mc qw_1496) dX8_command_131 ?_
    refine g_top (y := w_55 (9)) (congrFun (rd_in (by decide) (rd_in (by decide) (rd_in (by decide) rd_out))) _) ?_
    refine g_top (y := 1) kn_60 ?_
    refine lv_if_ne (tgt := 144) hx hb dX8_command_134 (by decide) (fun _ => ?_) (fun h9 => absurd h9 (by decide))
    exact g_vret C hr hlk hW_56 hS_28 dX8_command_144 (absurd hok (by simp only [ca2, hd_32, if_true, if_false, ps_ps, Nat.one_ne_zero, not_false_eq_true]))

set_option maxHeartbeats 4000000 in
set_option maxRecDepth 100000 in
theorem cX8_command18_ok (l : Launch) (G : GT) (X : St) (pp L : Nat) (hp : pp ≤ L) (hL : L ≤ 60) (e6 : X.1 15 6 = nI pp) (e7 : X.1 15 7 = nI L) (e9 : X.1 15 9 = 0) (hwd : WdOk (X.1 25) (X.1 26)) (e10 : X.1 15 10 = 1) (p1 : Nat) (hp1 : p1 ≤ L) (z1 : Nat → Int32) (hw9 : wdM (X.1 22) L pp (X.1 24) = (8, p1, 0, z1)) (hm : MInv (X.1 16)) (hok : (ca8 (X.1 22) L p1).2.2.2.2 = 0) : MetV l G yX8_command (wsG yX8_command cX8_command 6 none) (rmz 5 114) [.ref (ad G 723)] X (fun Y => Y = setRow (setRow (setRow (setRow X 15 (doM 8 (ps (X.1 15) (ca8 (X.1 22) L p1).2.2.2.1 0) (X.1 16) (X.1 20) (X.1 21) (ca8 (X.1 22) L p1).1 (ca8 (X.1 22) L p1).2.1 (ca8 (X.1 22) L p1).2.2.1).1) 24 z1) 16 (doM 8 (ps (X.1 15) (ca8 (X.1 22) L p1).2.2.2.1 0) (X.1 16) (X.1 20) (X.1 21) (ca8 (X.1 22) L p1).1 (ca8 (X.1 22) L p1).2.1 (ca8 (X.1 22) L p1).2.2.1).2.1) 20 (doM 8 (ps (X.1 15) (ca8 (X.1 22) L p1).2.2.2.1 0) (X.1 16) (X.1 20) (X.1 21) (ca8 (X.1 22) L p1).1 (ca8 (X.1 22) L p1).2.1 (ca8 (X.1 22) L p1).2.2.1).2.2) := by
  refine g_met (cc := cX8_command) (maxL := 6) (ret := none) (by decide) rfl (Nat.le_of_ble_eq_true rfl) ?_
  intro p e s m below meth c ls C hr hlk hnm hW hl
  have hx := C.1.1
  have hb := C.1.2.1
  have hS : va_S (Ab G) s.heap s.heap [] := va_S.rf
  have hl : lv_has ls 6 [(0, .ref (ad G 723))] := hl
  have hW : Wd G (setRow (setRow (setRow (setRow (X) 15 (X.1 15)) 24 (X.1 24)) 16 (X.1 16)) 20 (X.1 20)) s.heap := Wd.cast (((((sr_same (X := setRow (setRow (setRow (X) 15 (X.1 15)) 24 (X.1 24)) 16 (X.1 16)) (r := 20) rfl).trans (sr_same (X := setRow (setRow (X) 15 (X.1 15)) 24 (X.1 24)) (r := 16) rfl)).trans (sr_same (X := setRow (X) 15 (X.1 15)) (r := 24) rfl)).trans (sr_same (X := X) (r := 15) rfl))).symm hW
  refine lv_aload_n hx hb dX8_command_0 rfl (lv_at hl 0 rfl) ?_
  refine g_calli (va_runV (As := []) (rest := []) C.1 (cX8_word_ok l G (setRow (setRow (setRow (setRow X 15 (X.1 15)) 24 (X.1 24)) 16 (X.1 16)) 20 (X.1 20)) pp L (show pp ≤ L by omega) hL e6 e7 e9 hwd) (cwV 0 C.1.2.2.2.2 (gV qw_1895 qw_1897 qw_63 qw_81 qw_1898) rfl rfl rfl (by decide +kernel) ⟨Nat.le_of_ble_eq_true rfl, Nat.le_of_ble_eq_true rfl⟩) (g_rModel C hW hS []) rfl rfl hl.1 rfl (lv_room (Nat.le_of_ble_eq_true rfl)) dX8_command_1 ⟨Nat.zero_le _, Nat.zero_le _⟩) hS (fun r_2 Y_3 H_4 locs_5 hW_6 hS_7 h_1 => ?_)
  replace h_1 : r_2 = (wdM (X.1 22) L pp (X.1 24)).1 ∧ Y_3 = setRow (setRow (setRow (setRow (setRow (setRow X 15 (X.1 15)) 24 (X.1 24)) 16 (X.1 16)) 20 (X.1 20)) 15 (ps (X.1 15) (wdM (X.1 22) L pp (X.1 24)).2.1 (wdM (X.1 22) L pp (X.1 24)).2.2.1)) 24 (wdM (X.1 22) L pp (X.1 24)).2.2.2 := h_1
  rw [hw9] at h_1
  obtain ⟨h_8, h_1⟩ := h_1
  replace h_8 : r_2 = 8 := h_8
  subst h_8
  replace h_1 : Y_3 = setRow (setRow (setRow (setRow (setRow (setRow X 15 (X.1 15)) 24 (X.1 24)) 16 (X.1 16)) 20 (X.1 20)) 15 (ps (X.1 15) p1 0)) 24 z1 := h_1
  replace h_1 : Y_3 = setRow (setRow (setRow (setRow (setRow (setRow X 15 (X.1 15)) 24 (X.1 24)) 16 (X.1 16)) 20 (X.1 20)) 15 (ps (X.1 15) p1 0)) 24 z1 := h_1
  obtain ⟨w_9, ew_9⟩ : ∃ Z9, Z9 = ps (X.1 15) p1 0 := ⟨_, rfl⟩
  obtain ⟨w_10, ew_10⟩ : ∃ Z9, Z9 = z1 := ⟨_, rfl⟩
  have qqw_9 : Y_3 = setRow (setRow (setRow (setRow (setRow (setRow X 15 (X.1 15)) 24 (X.1 24)) 16 (X.1 16)) 20 (X.1 20)) 15 w_9) 24 w_10 := by rw [h_1, ew_9, ew_10]
  have hW_11 : Wd G (setRow (setRow (setRow (setRow X 15 w_9) 24 w_10) 16 (X.1 16)) 20 (X.1 20)) H_4 := Wd.cast (((qqw_9).trans (congrArg (fun Z9 => setRow (Z9) 24 w_10) (sr_in (by decide) (sr_in (by decide) (sr_in (by decide) sr_out))))).trans (congrArg (fun Z9 => Z9) (sr_in (by decide) (sr_in (by decide) sr_out)))) hW_6
  have kn_12 : w_9 (7) = nI L := by rw [ew_9]; exact (ps_o (by decide) (by decide)).trans e7
  have kn_13 : w_9 (10) = 1 := by rw [ew_9]; exact (ps_o (by decide) (by decide)).trans e10
  have kn_14 : w_9 (6) = nI p1 := by rw [ew_9]; exact ps_6
  have kn_15 : w_9 (9) = 0 := by rw [ew_9]; exact ps_9
  refine lv_istore_n (lv' := [(1, .int 8), (0, .ref (ad G 723))]) hx hb dX8_command_4 rfl hl (by decide) rfl (fun ls_16 hl_17 => ?_)
  refine lv_iconst (v := 0) hx hb dX8_command_5 (by decide) ?_
  refine lv_istore_n (lv' := [(2, .int 0), (1, .int 8), (0, .ref (ad G 723))]) hx hb dX8_command_6 rfl hl_17 (by decide) rfl (fun ls_18 hl_19 => ?_)
  refine lv_iconst (v := 0) hx hb dX8_command_7 (by decide) ?_
  refine lv_istore_n (lv' := [(3, .int 0), (2, .int 0), (1, .int 8), (0, .ref (ad G 723))]) hx hb dX8_command_8 rfl hl_19 (by decide) rfl (fun ls_20 hl_21 => ?_)
  refine lv_aload_n hx hb dX8_command_9 rfl (lv_at hl_21 3 rfl) ?_
  refine gM_isWrong C hW_11 (hwc hwX8) (mc qw_1496) dX8_command_10 ?_
  refine g_top (y := w_9 (9)) (congrFun (rd_in (by decide) (rd_in (by decide) (rd_in (by decide) rd_out))) _) ?_
  refine g_top (y := 0) kn_15 ?_
  refine lv_if_eq (tgt := 17) hx hb dX8_command_13 (by decide) (fun _ => ?_) (fun h9 => absurd h9 (by decide))
  refine lv_aload_n hx hb dX8_command_17 rfl (lv_at hl_21 3 rfl) ?_
  refine lv_iload_n hx hb dX8_command_18 rfl (lv_at hl_21 2 rfl) ?_
  refine lv_iconst (v := 5) hx hb dX8_command_19 (by decide) ?_
  refine lv_icmp_eq (tgt := 29) hx hb dX8_command_20 (by decide) (fun h9 => absurd h9 (by decide)) (fun _ => ?_)
  refine lv_iload_n hx hb dX8_command_23 rfl (lv_at hl_21 2 rfl) ?_
  refine lv_bipush (v := 8) hx hb dX8_command_24 (by decide) ?_
  refine lv_icmp_lt (tgt := 33) hx hb dX8_command_26 (by decide) (fun h9 => absurd h9 (by decide)) (fun _ => ?_)
  refine lv_iconst (v := 3) hx hb dX8_command_29 (by decide) ?_
  refine lv_goto (tgt := 34) hx hb dX8_command_30 (by decide) ?_
  refine g_calli (va_runV (As := [.int 3]) (rest := []) C.1 (cX8_digits_ok l G (setRow (setRow (setRow (setRow X 15 w_9) 24 w_10) 16 (X.1 16)) 20 (X.1 20)) p1 L (show p1 ≤ L by omega) hL kn_14 kn_12 kn_15 3 (by omega)) (cwV 1 C.1.2.2.2.2 (gV qw_1903 qw_1905 qw_65 qw_81 qw_1906) rfl rfl rfl (by decide +kernel) ⟨Nat.le_of_ble_eq_true rfl, Nat.le_of_ble_eq_true rfl⟩) (g_rModel C hW_11 hS_7 [.int 3]) rfl rfl hl_21.1 rfl (lv_room (Nat.le_of_ble_eq_true rfl)) dX8_command_34 ⟨Nat.zero_le _, Nat.zero_le _⟩) hS_7 (fun r_23 Y_24 H_25 locs_26 hW_27 hS_28 h_22 => ?_)
  replace h_22 : r_23 = (dgM (X.1 22) L 3 p1).1 ∧ Y_24 = setRow (setRow (setRow (setRow (setRow X 15 w_9) 24 w_10) 16 (X.1 16)) 20 (X.1 20)) 15 (ps w_9 (dgM (X.1 22) L 3 p1).2.1 (dgM (X.1 22) L 3 p1).2.2) := h_22
  obtain ⟨n_29, p_30, c_31, hd_32⟩ : ∃ x9 y9 z9, dgM (X.1 22) L 3 p1 = (x9, y9, z9) := ⟨_, _, _, rfl⟩
  rw [hd_32] at h_22
  obtain ⟨h_33, h_22⟩ := h_22
  replace h_33 : r_23 = n_29 := h_33
  subst h_33
  have hp_30 : p_30 ≤ L := dgM_le (show p1 ≤ L by omega) hd_32
  rcases dgM_b hd_32 with hbc_31 | hbc_31
  · rw [hbc_31] at hd_32 h_22
    replace h_22 : Y_24 = setRow (setRow (setRow (setRow (setRow X 15 w_9) 24 w_10) 16 (X.1 16)) 20 (X.1 20)) 15 (ps w_9 p_30 0) := h_22
    replace h_22 : Y_24 = setRow (setRow (setRow (setRow (setRow X 15 w_9) 24 w_10) 16 (X.1 16)) 20 (X.1 20)) 15 (ps w_9 p_30 0) := h_22
    obtain ⟨w_34, ew_34⟩ : ∃ Z9, Z9 = ps w_9 p_30 0 := ⟨_, rfl⟩
    have qqw_34 : Y_24 = setRow (setRow (setRow (setRow (setRow X 15 w_9) 24 w_10) 16 (X.1 16)) 20 (X.1 20)) 15 w_34 := by rw [h_22, ew_34]
    have hW_35 : Wd G (setRow (setRow (setRow (setRow X 15 w_34) 24 w_10) 16 (X.1 16)) 20 (X.1 20)) H_25 := Wd.cast ((qqw_34).trans (congrArg (fun Z9 => Z9) (sr_in (by decide) (sr_in (by decide) (sr_in (by decide) sr_out))))) hW_27
    have kn_36 : w_34 (7) = nI L := by rw [ew_34]; exact (ps_o (by decide) (by decide)).trans kn_12
    have kn_37 : w_34 (10) = 1 := by rw [ew_34]; exact (ps_o (by decide) (by decide)).trans kn_13
    have kn_38 : w_34 (6) = nI p_30 := by rw [ew_34]; exact ps_6
    have kn_39 : w_34 (9) = 0 := by rw [ew_34]; exact ps_9
    refine lv_istore (lv' := [(4, .int r_23), (3, .int 0), (2, .int 0), (1, .int 8), (0, .ref (ad G 723))]) hx hb dX8_command_37 hl_21 (by decide) rfl (fun ls_40 hl_41 => ?_)
    refine lv_iload_n hx hb dX8_command_39 rfl (lv_at hl_41 3 rfl) ?_
    refine lv_if_ne (tgt := 55) hx hb dX8_command_40 (by decide) (fun _ => ?_) (fun h9 => absurd h9 (by decide))
    refine lv_iload_n hx hb dX8_command_55 rfl (lv_at hl_41 3 rfl) ?_
    refine lv_if_ne (tgt := 72) hx hb dX8_command_56 (by decide) (fun _ => ?_) (fun h9 => absurd h9 (by decide))
    refine lv_iload_n hx hb dX8_command_72 rfl (lv_at hl_41 3 rfl) ?_
    refine lv_iconst (v := 1) hx hb dX8_command_73 (by decide) ?_
    refine lv_icmp_eq (tgt := 99) hx hb dX8_command_74 (by decide) (fun h9 => absurd h9 (by decide)) (fun _ => ?_)
    refine lv_iload_n hx hb dX8_command_77 rfl (lv_at hl_41 3 rfl) ?_
    refine lv_iconst (v := 3) hx hb dX8_command_78 (by decide) ?_
    refine lv_icmp_eq (tgt := 99) hx hb dX8_command_79 (by decide) (fun h9 => absurd h9 (by decide)) (fun _ => ?_)
    refine lv_iload_n hx hb dX8_command_82 rfl (lv_at hl_41 3 rfl) ?_
    refine lv_iconst (v := 4) hx hb dX8_command_83 (by decide) ?_
    refine lv_icmp_eq (tgt := 99) hx hb dX8_command_84 (by decide) (fun h9 => absurd h9 (by decide)) (fun _ => ?_)
    refine lv_iload_n hx hb dX8_command_87 rfl (lv_at hl_41 3 rfl) ?_
    refine lv_bipush (v := 6) hx hb dX8_command_88 (by decide) ?_
    refine lv_icmp_eq (tgt := 99) hx hb dX8_command_90 (by decide) (fun h9 => absurd h9 (by decide)) (fun _ => ?_)
    refine lv_iload_n hx hb dX8_command_93 rfl (lv_at hl_41 3 rfl) ?_
    refine lv_bipush (v := 8) hx hb dX8_command_94 (by decide) ?_
    refine lv_icmp_ne (tgt := 112) hx hb dX8_command_96 (by decide) (fun h9 => absurd h9 (by decide)) (fun _ => ?_)
    refine lv_aload_n hx hb dX8_command_99 rfl (lv_at hl_41 4 rfl) ?_
    refine gM_isWrong C hW_35 (hwc hwX8) (mc qw_1496) dX8_command_100 ?_
    refine g_top (y := w_34 (9)) (congrFun (rd_in (by decide) (rd_in (by decide) (rd_in (by decide) rd_out))) _) ?_
    refine g_top (y := 0) kn_39 ?_
    refine lv_if_ne (tgt := 112) hx hb dX8_command_103 (by decide) (fun h9 => absurd h9 (by decide)) (fun _ => ?_)
    refine lv_aload_n hx hb dX8_command_106 rfl (lv_at hl_41 4 rfl) ?_
    refine lv_iconst (v := 1) hx hb dX8_command_107 (by decide) ?_
    refine g_calli (va_runV (As := [.int 1]) (rest := []) C.1 (cX8_behind_ok l G (setRow (setRow (setRow (setRow X 15 w_34) 24 w_10) 16 (X.1 16)) 20 (X.1 20)) p_30 L (show p_30 ≤ L by omega) hL kn_38 kn_36 kn_39 1 (by omega)) (cwV 1 C.1.2.2.2.2 (gV qw_1915 qw_1917 qw_68 qw_81 qw_1918) rfl rfl rfl (by decide +kernel) ⟨Nat.le_of_ble_eq_true rfl, Nat.le_of_ble_eq_true rfl⟩) (g_rModel C hW_35 hS_28 [.int 1]) rfl rfl hl_41.1 rfl (lv_room (Nat.le_of_ble_eq_true rfl)) dX8_command_108 ⟨Nat.zero_le _, Nat.zero_le _⟩) hS_28 (fun r_43 Y_44 H_45 locs_46 hW_47 hS_48 h_42 => ?_)
    replace h_42 : r_43 = (bhM (X.1 22) L 1 p_30).1 ∧ Y_44 = setRow (setRow (setRow (setRow (setRow X 15 w_34) 24 w_10) 16 (X.1 16)) 20 (X.1 20)) 15 (ps w_34 (bhM (X.1 22) L 1 p_30).2.1 (bhM (X.1 22) L 1 p_30).2.2) := h_42
    obtain ⟨n_49, p_50, c_51, hd_52⟩ : ∃ x9 y9 z9, bhM (X.1 22) L 1 p_30 = (x9, y9, z9) := ⟨_, _, _, rfl⟩
    rw [hd_52] at h_42
    obtain ⟨h_53, h_42⟩ := h_42
    replace h_53 : r_43 = n_49 := h_53
    subst h_53
    have hp_50 : p_50 ≤ L := bhM_le (show p_30 ≤ L by omega) hd_52
    rcases bhM_b hd_52 with hbc_51 | hbc_51
    · rw [hbc_51] at hd_52 h_42
      replace h_42 : Y_44 = setRow (setRow (setRow (setRow (setRow X 15 w_34) 24 w_10) 16 (X.1 16)) 20 (X.1 20)) 15 (ps w_34 p_50 0) := h_42
      replace h_42 : Y_44 = setRow (setRow (setRow (setRow (setRow X 15 w_34) 24 w_10) 16 (X.1 16)) 20 (X.1 20)) 15 (ps w_34 p_50 0) := h_42
      obtain ⟨w_54, ew_54⟩ : ∃ Z9, Z9 = ps w_34 p_50 0 := ⟨_, rfl⟩
      have qqw_54 : Y_44 = setRow (setRow (setRow (setRow (setRow X 15 w_34) 24 w_10) 16 (X.1 16)) 20 (X.1 20)) 15 w_54 := by rw [h_42, ew_54]
      have hW_55 : Wd G (setRow (setRow (setRow (setRow X 15 w_54) 24 w_10) 16 (X.1 16)) 20 (X.1 20)) H_45 := Wd.cast ((qqw_54).trans (congrArg (fun Z9 => Z9) (sr_in (by decide) (sr_in (by decide) (sr_in (by decide) sr_out))))) hW_47
      have kn_56 : w_54 (7) = nI L := by rw [ew_54]; exact (ps_o (by decide) (by decide)).trans kn_36
      have kn_57 : w_54 (10) = 1 := by rw [ew_54]; exact (ps_o (by decide) (by decide)).trans kn_37
      have kn_58 : w_54 (6) = nI p_50 := by rw [ew_54]; exact ps_6
      have kn_59 : w_54 (9) = 0 := by rw [ew_54]; exact ps_9
      refine lv_istore_n (lv' := [(2, .int r_43), (4, .int r_23), (3, .int 0), (1, .int 8), (0, .ref (ad G 723))]) hx hb dX8_command_111 rfl hl_41 (by decide) rfl (fun ls_60 hl_61 => ?_)
      refine lv_iload_n hx hb dX8_command_112 rfl (lv_at hl_61 3 rfl) ?_
      refine lv_iconst (v := 3) hx hb dX8_command_113 (by decide) ?_
      refine lv_icmp_ne (tgt := 130) hx hb dX8_command_114 (by decide) (fun _ => ?_) (fun h9 => absurd h9 (by decide))
      refine lv_aload_n hx hb dX8_command_130 rfl (lv_at hl_61 4 rfl) ?_
      refine gM_isWrong C hW_55 (hwc hwX8) (mc qw_1496) dX8_command_131 ?_
      refine g_top (y := w_54 (9)) (congrFun (rd_in (by decide) (rd_in (by decide) (rd_in (by decide) rd_out))) _) ?_
      refine g_top (y := 0) kn_59 ?_
      refine lv_if_ne (tgt := 144) hx hb dX8_command_134 (by decide) (fun h9 => absurd h9 (by decide)) (fun _ => ?_)
      refine lv_aload_n hx hb dX8_command_137 rfl (lv_at hl_61 4 rfl) ?_
      refine gM_isDoing C hW_55 (hwc hwX8) (mc qw_1497) dX8_command_138 ?_
      refine g_top (y := w_54 (10)) (congrFun (rd_in (by decide) (rd_in (by decide) (rd_in (by decide) rd_out))) _) ?_
      refine g_top (y := 1) kn_57 ?_
      refine lv_if_ne (tgt := 145) hx hb dX8_command_141 (by decide) (fun _ => ?_) (fun h9 => absurd h9 (by decide))
      refine lv_aload_n hx hb dX8_command_145 rfl (lv_at hl_61 4 rfl) ?_
      refine lv_iload_n hx hb dX8_command_146 rfl (lv_at hl_61 3 rfl) ?_
      refine lv_iload hx hb dX8_command_147 (lv_at hl_61 1 rfl) ?_
      refine lv_iload_n hx hb dX8_command_149 rfl (lv_at hl_61 0 rfl) ?_
      refine lv_iload_n hx hb dX8_command_150 rfl (lv_at hl_61 2 rfl) ?_
      refine g_calli (va_runV (As := [.int 8, .int r_23, .int r_43, .int 0]) (rest := []) C.1 (cX8_does8_ok l G (setRow (setRow (setRow (setRow X 15 w_54) 24 w_10) 16 (X.1 16)) 20 (X.1 20)) r_23 r_43 0 hm) (cwV 4 C.1.2.2.2.2 (gV qw_1919 qw_1921 qw_69 qw_81 qw_1922) rfl rfl rfl (by decide +kernel) ⟨Nat.le_of_ble_eq_true rfl, Nat.le_of_ble_eq_true rfl⟩) (g_rModel C hW_55 hS_48 [.int 8, .int r_23, .int r_43, .int 0]) rfl rfl hl_61.1 rfl (lv_room (Nat.le_of_ble_eq_true rfl)) dX8_command_151 ⟨Nat.zero_le _, Nat.zero_le _⟩) hS_48 (fun r_63 Y_64 H_65 locs_66 hW_67 hS_68 h_62 => ?_)
      replace h_62 : Y_64 = setRow (setRow (setRow (setRow (setRow (setRow (setRow X 15 w_54) 24 w_10) 16 (X.1 16)) 20 (X.1 20)) 15 ((doM 8 w_54 (X.1 16) (X.1 20) (X.1 21) r_23 r_43 0).1)) 16 ((doM 8 w_54 (X.1 16) (X.1 20) (X.1 21) r_23 r_43 0).2.1)) 20 ((doM 8 w_54 (X.1 16) (X.1 20) (X.1 21) r_23 r_43 0).2.2) := h_62
      obtain ⟨w_69, ew_69⟩ : ∃ Z9, Z9 = (doM 8 w_54 (X.1 16) (X.1 20) (X.1 21) r_23 r_43 0).1 := ⟨_, rfl⟩
      obtain ⟨w_70, ew_70⟩ : ∃ Z9, Z9 = (doM 8 w_54 (X.1 16) (X.1 20) (X.1 21) r_23 r_43 0).2.1 := ⟨_, rfl⟩
      obtain ⟨w_71, ew_71⟩ : ∃ Z9, Z9 = (doM 8 w_54 (X.1 16) (X.1 20) (X.1 21) r_23 r_43 0).2.2 := ⟨_, rfl⟩
      have qqw_69 : Y_64 = setRow (setRow (setRow (setRow (setRow (setRow (setRow X 15 w_54) 24 w_10) 16 (X.1 16)) 20 (X.1 20)) 15 w_69) 16 w_70) 20 w_71 := by rw [h_62, ew_69, ew_70, ew_71]
      have hW_72 : Wd G (setRow (setRow (setRow (setRow X 15 w_69) 24 w_10) 16 w_70) 20 w_71) H_65 := Wd.cast ((((qqw_69).trans (congrArg (fun Z9 => setRow (setRow (Z9) 16 w_70) 20 w_71) (sr_in (by decide) (sr_in (by decide) (sr_in (by decide) sr_out))))).trans (congrArg (fun Z9 => setRow (Z9) 20 w_71) (sr_in (by decide) sr_out))).trans (congrArg (fun Z9 => Z9) sr_out)) hW_67
      refine lv_istore (lv' := [(5, .int r_63), (2, .int r_43), (4, .int r_23), (3, .int 0), (1, .int 8), (0, .ref (ad G 723))]) hx hb dX8_command_154 hl_61 (by decide) rfl (fun ls_73 hl_74 => ?_)
      exact g_vret C hr hlk hW_72 hS_68 dX8_command_156 (by subst ew_71; subst ew_70; subst ew_69; subst ew_54; subst ew_34; subst ew_10; subst ew_9; simp only [ca8, caB, hd_32, hd_52, if_true, if_false, ps_ps, Nat.one_ne_zero])
    · rw [hbc_51] at hd_52 h_42
      replace h_42 : Y_44 = setRow (setRow (setRow (setRow (setRow X 15 w_34) 24 w_10) 16 (X.1 16)) 20 (X.1 20)) 15 (ps w_34 p_50 1) := h_42
      replace h_42 : Y_44 = setRow (setRow (setRow (setRow (setRow X 15 w_34) 24 w_10) 16 (X.1 16)) 20 (X.1 20)) 15 (ps w_34 p_50 1) := h_42
      obtain ⟨w_75, ew_75⟩ : ∃ Z9, Z9 = ps w_34 p_50 1 := ⟨_, rfl⟩
      have qqw_75 : Y_44 = setRow (setRow (setRow (setRow (setRow X 15 w_34) 24 w_10) 16 (X.1 16)) 20 (X.1 20)) 15 w_75 := by rw [h_42, ew_75]
      have hW_76 : Wd G (setRow (setRow (setRow (setRow X 15 w_75) 24 w_10) 16 (X.1 16)) 20 (X.1 20)) H_45 := Wd.cast ((qqw_75).trans (congrArg (fun Z9 => Z9) (sr_in (by decide) (sr_in (by decide) (sr_in (by decide) sr_out))))) hW_47
      have kn_77 : w_75 (7) = nI L := by rw [ew_75]; exact (ps_o (by decide) (by decide)).trans kn_36
      have kn_78 : w_75 (10) = 1 := by rw [ew_75]; exact (ps_o (by decide) (by decide)).trans kn_37
      have kn_79 : w_75 (6) = nI p_50 := by rw [ew_75]; exact ps_6
      have kn_80 : w_75 (9) = 1 := by rw [ew_75]; exact ps_9
      refine lv_istore_n (lv' := [(2, .int r_43), (4, .int r_23), (3, .int 0), (1, .int 8), (0, .ref (ad G 723))]) hx hb dX8_command_111 rfl hl_41 (by decide) rfl (fun ls_81 hl_82 => ?_)
      refine lv_iload_n hx hb dX8_command_112 rfl (lv_at hl_82 3 rfl) ?_
      refine lv_iconst (v := 3) hx hb dX8_command_113 (by decide) ?_
      refine lv_icmp_ne (tgt := 130) hx hb dX8_command_114 (by decide) (fun _ => ?_) (fun h9 => absurd h9 (by decide))
      refine lv_aload_n hx hb dX8_command_130 rfl (lv_at hl_82 4 rfl) ?_
      refine gM_isWrong C hW_76 (hwc hwX8) (mc qw_1496) dX8_command_131 ?_
      refine g_top (y := w_75 (9)) (congrFun (rd_in (by decide) (rd_in (by decide) (rd_in (by decide) rd_out))) _) ?_
      refine g_top (y := 1) kn_80 ?_
      refine lv_if_ne (tgt := 144) hx hb dX8_command_134 (by decide) (fun _ => ?_) (fun h9 => absurd h9 (by decide))
      exact g_vret C hr hlk hW_76 hS_48 dX8_command_144 (absurd hok (by simp only [ca8, caB, hd_32, hd_52, if_true, if_false, ps_ps, Nat.one_ne_zero, not_false_eq_true]))
  · rw [hbc_31] at hd_32 h_22
    replace h_22 : Y_24 = setRow (setRow (setRow (setRow (setRow X 15 w_9) 24 w_10) 16 (X.1 16)) 20 (X.1 20)) 15 (ps w_9 p_30 1) := h_22
    replace h_22 : Y_24 = setRow (setRow (setRow (setRow (setRow X 15 w_9) 24 w_10) 16 (X.1 16)) 20 (X.1 20)) 15 (ps w_9 p_30 1) := h_22
    obtain ⟨w_83, ew_83⟩ : ∃ Z9, Z9 = ps w_9 p_30 1 := ⟨_, rfl⟩
    have qqw_83 : Y_24 = setRow (setRow (setRow (setRow (setRow X 15 w_9) 24 w_10) 16 (X.1 16)) 20 (X.1 20)) 15 w_83 := by rw [h_22, ew_83]
    have hW_84 : Wd G (setRow (setRow (setRow (setRow X 15 w_83) 24 w_10) 16 (X.1 16)) 20 (X.1 20)) H_25 := Wd.cast ((qqw_83).trans (congrArg (fun Z9 => Z9) (sr_in (by decide) (sr_in (by decide) (sr_in (by decide) sr_out))))) hW_27
    have kn_85 : w_83 (7) = nI L := by rw [ew_83]; exact (ps_o (by decide) (by decide)).trans kn_12
    have kn_86 : w_83 (10) = 1 := by rw [ew_83]; exact (ps_o (by decide) (by decide)).trans kn_13
    have kn_87 : w_83 (6) = nI p_30 := by rw [ew_83]; exact ps_6
    have kn_88 : w_83 (9) = 1 := by rw [ew_83]; exact ps_9
    refine lv_istore (lv' := [(4, .int r_23), (3, .int 0), (2, .int 0), (1, .int 8), (0, .ref (ad G 723))]) hx hb dX8_command_37 hl_21 (by decide) rfl (fun ls_89 hl_90 => ?_)
    refine lv_iload_n hx hb dX8_command_39 rfl (lv_at hl_90 3 rfl) ?_
    refine lv_if_ne (tgt := 55) hx hb dX8_command_40 (by decide) (fun _ => ?_) (fun h9 => absurd h9 (by decide))
    refine lv_iload_n hx hb dX8_command_55 rfl (lv_at hl_90 3 rfl) ?_
    refine lv_if_ne (tgt := 72) hx hb dX8_command_56 (by decide) (fun _ => ?_) (fun h9 => absurd h9 (by decide))
    refine lv_iload_n hx hb dX8_command_72 rfl (lv_at hl_90 3 rfl) ?_
    refine lv_iconst (v := 1) hx hb dX8_command_73 (by decide) ?_
    refine lv_icmp_eq (tgt := 99) hx hb dX8_command_74 (by decide) (fun h9 => absurd h9 (by decide)) (fun _ => ?_)
    refine lv_iload_n hx hb dX8_command_77 rfl (lv_at hl_90 3 rfl) ?_
    refine lv_iconst (v := 3) hx hb dX8_command_78 (by decide) ?_
    refine lv_icmp_eq (tgt := 99) hx hb dX8_command_79 (by decide) (fun h9 => absurd h9 (by decide)) (fun _ => ?_)
    refine lv_iload_n hx hb dX8_command_82 rfl (lv_at hl_90 3 rfl) ?_
    refine lv_iconst (v := 4) hx hb dX8_command_83 (by decide) ?_
    refine lv_icmp_eq (tgt := 99) hx hb dX8_command_84 (by decide) (fun h9 => absurd h9 (by decide)) (fun _ => ?_)
    refine lv_iload_n hx hb dX8_command_87 rfl (lv_at hl_90 3 rfl) ?_
    refine lv_bipush (v := 6) hx hb dX8_command_88 (by decide) ?_
    refine lv_icmp_eq (tgt := 99) hx hb dX8_command_90 (by decide) (fun h9 => absurd h9 (by decide)) (fun _ => ?_)
    refine lv_iload_n hx hb dX8_command_93 rfl (lv_at hl_90 3 rfl) ?_
    refine lv_bipush (v := 8) hx hb dX8_command_94 (by decide) ?_
    refine lv_icmp_ne (tgt := 112) hx hb dX8_command_96 (by decide) (fun h9 => absurd h9 (by decide)) (fun _ => ?_)
    refine lv_aload_n hx hb dX8_command_99 rfl (lv_at hl_90 4 rfl) ?_
    refine gM_isWrong C hW_84 (hwc hwX8) (mc qw_1496) dX8_command_100 ?_
    refine g_top (y := w_83 (9)) (congrFun (rd_in (by decide) (rd_in (by decide) (rd_in (by decide) rd_out))) _) ?_
    refine g_top (y := 1) kn_88 ?_
    refine lv_if_ne (tgt := 112) hx hb dX8_command_103 (by decide) (fun _ => ?_) (fun h9 => absurd h9 (by decide))
    refine lv_iload_n hx hb dX8_command_112 rfl (lv_at hl_90 3 rfl) ?_
    refine lv_iconst (v := 3) hx hb dX8_command_113 (by decide) ?_
    refine lv_icmp_ne (tgt := 130) hx hb dX8_command_114 (by decide) (fun _ => ?_) (fun h9 => absurd h9 (by decide))
    refine lv_aload_n hx hb dX8_command_130 rfl (lv_at hl_90 4 rfl) ?_
    refine gM_isWrong C hW_84 (hwc hwX8) (mc qw_1496) dX8_command_131 ?_
    refine g_top (y := w_83 (9)) (congrFun (rd_in (by decide) (rd_in (by decide) (rd_in (by decide) rd_out))) _) ?_
    refine g_top (y := 1) kn_88 ?_
    refine lv_if_ne (tgt := 144) hx hb dX8_command_134 (by decide) (fun _ => ?_) (fun h9 => absurd h9 (by decide))
    exact g_vret C hr hlk hW_84 hS_28 dX8_command_144 (absurd hok (by simp only [ca8, caB, hd_32, if_true, if_false, ps_ps, Nat.one_ne_zero, not_false_eq_true]))

set_option maxHeartbeats 4000000 in
set_option maxRecDepth 100000 in
theorem cX8_command19_ok (l : Launch) (G : GT) (X : St) (pp L : Nat) (hp : pp ≤ L) (hL : L ≤ 60) (e6 : X.1 15 6 = nI pp) (e7 : X.1 15 7 = nI L) (e9 : X.1 15 9 = 0) (hwd : WdOk (X.1 25) (X.1 26)) (e10 : X.1 15 10 = 1) (p1 : Nat) (hp1 : p1 ≤ L) (z1 : Nat → Int32) (hw9 : wdM (X.1 22) L pp (X.1 24) = (9, p1, 0, z1)) (hm : MInv (X.1 16)) (hok : (ca5 (X.1 22) L p1).2.2.2.2 = 0) : MetV l G yX8_command (wsG yX8_command cX8_command 6 none) (rmz 5 114) [.ref (ad G 723)] X (fun Y => Y = setRow (setRow (setRow (setRow X 15 (doM 9 (ps (X.1 15) (ca5 (X.1 22) L p1).2.2.2.1 0) (X.1 16) (X.1 20) (X.1 21) (ca5 (X.1 22) L p1).1 (ca5 (X.1 22) L p1).2.1 (ca5 (X.1 22) L p1).2.2.1).1) 24 z1) 16 (doM 9 (ps (X.1 15) (ca5 (X.1 22) L p1).2.2.2.1 0) (X.1 16) (X.1 20) (X.1 21) (ca5 (X.1 22) L p1).1 (ca5 (X.1 22) L p1).2.1 (ca5 (X.1 22) L p1).2.2.1).2.1) 20 (doM 9 (ps (X.1 15) (ca5 (X.1 22) L p1).2.2.2.1 0) (X.1 16) (X.1 20) (X.1 21) (ca5 (X.1 22) L p1).1 (ca5 (X.1 22) L p1).2.1 (ca5 (X.1 22) L p1).2.2.1).2.2) := by
  refine g_met (cc := cX8_command) (maxL := 6) (ret := none) (by decide) rfl (Nat.le_of_ble_eq_true rfl) ?_
  intro p e s m below meth c ls C hr hlk hnm hW hl
  have hx := C.1.1
  have hb := C.1.2.1
  have hS : va_S (Ab G) s.heap s.heap [] := va_S.rf
  have hl : lv_has ls 6 [(0, .ref (ad G 723))] := hl
  have hW : Wd G (setRow (setRow (setRow (setRow (X) 15 (X.1 15)) 24 (X.1 24)) 16 (X.1 16)) 20 (X.1 20)) s.heap := Wd.cast (((((sr_same (X := setRow (setRow (setRow (X) 15 (X.1 15)) 24 (X.1 24)) 16 (X.1 16)) (r := 20) rfl).trans (sr_same (X := setRow (setRow (X) 15 (X.1 15)) 24 (X.1 24)) (r := 16) rfl)).trans (sr_same (X := setRow (X) 15 (X.1 15)) (r := 24) rfl)).trans (sr_same (X := X) (r := 15) rfl))).symm hW
  refine lv_aload_n hx hb dX8_command_0 rfl (lv_at hl 0 rfl) ?_
  refine g_calli (va_runV (As := []) (rest := []) C.1 (cX8_word_ok l G (setRow (setRow (setRow (setRow X 15 (X.1 15)) 24 (X.1 24)) 16 (X.1 16)) 20 (X.1 20)) pp L (show pp ≤ L by omega) hL e6 e7 e9 hwd) (cwV 0 C.1.2.2.2.2 (gV qw_1895 qw_1897 qw_63 qw_81 qw_1898) rfl rfl rfl (by decide +kernel) ⟨Nat.le_of_ble_eq_true rfl, Nat.le_of_ble_eq_true rfl⟩) (g_rModel C hW hS []) rfl rfl hl.1 rfl (lv_room (Nat.le_of_ble_eq_true rfl)) dX8_command_1 ⟨Nat.zero_le _, Nat.zero_le _⟩) hS (fun r_2 Y_3 H_4 locs_5 hW_6 hS_7 h_1 => ?_)
  replace h_1 : r_2 = (wdM (X.1 22) L pp (X.1 24)).1 ∧ Y_3 = setRow (setRow (setRow (setRow (setRow (setRow X 15 (X.1 15)) 24 (X.1 24)) 16 (X.1 16)) 20 (X.1 20)) 15 (ps (X.1 15) (wdM (X.1 22) L pp (X.1 24)).2.1 (wdM (X.1 22) L pp (X.1 24)).2.2.1)) 24 (wdM (X.1 22) L pp (X.1 24)).2.2.2 := h_1
  rw [hw9] at h_1
  obtain ⟨h_8, h_1⟩ := h_1
  replace h_8 : r_2 = 9 := h_8
  subst h_8
  replace h_1 : Y_3 = setRow (setRow (setRow (setRow (setRow (setRow X 15 (X.1 15)) 24 (X.1 24)) 16 (X.1 16)) 20 (X.1 20)) 15 (ps (X.1 15) p1 0)) 24 z1 := h_1
  replace h_1 : Y_3 = setRow (setRow (setRow (setRow (setRow (setRow X 15 (X.1 15)) 24 (X.1 24)) 16 (X.1 16)) 20 (X.1 20)) 15 (ps (X.1 15) p1 0)) 24 z1 := h_1
  obtain ⟨w_9, ew_9⟩ : ∃ Z9, Z9 = ps (X.1 15) p1 0 := ⟨_, rfl⟩
  obtain ⟨w_10, ew_10⟩ : ∃ Z9, Z9 = z1 := ⟨_, rfl⟩
  have qqw_9 : Y_3 = setRow (setRow (setRow (setRow (setRow (setRow X 15 (X.1 15)) 24 (X.1 24)) 16 (X.1 16)) 20 (X.1 20)) 15 w_9) 24 w_10 := by rw [h_1, ew_9, ew_10]
  have hW_11 : Wd G (setRow (setRow (setRow (setRow X 15 w_9) 24 w_10) 16 (X.1 16)) 20 (X.1 20)) H_4 := Wd.cast (((qqw_9).trans (congrArg (fun Z9 => setRow (Z9) 24 w_10) (sr_in (by decide) (sr_in (by decide) (sr_in (by decide) sr_out))))).trans (congrArg (fun Z9 => Z9) (sr_in (by decide) (sr_in (by decide) sr_out)))) hW_6
  have kn_12 : w_9 (7) = nI L := by rw [ew_9]; exact (ps_o (by decide) (by decide)).trans e7
  have kn_13 : w_9 (10) = 1 := by rw [ew_9]; exact (ps_o (by decide) (by decide)).trans e10
  have kn_14 : w_9 (6) = nI p1 := by rw [ew_9]; exact ps_6
  have kn_15 : w_9 (9) = 0 := by rw [ew_9]; exact ps_9
  refine lv_istore_n (lv' := [(1, .int 9), (0, .ref (ad G 723))]) hx hb dX8_command_4 rfl hl (by decide) rfl (fun ls_16 hl_17 => ?_)
  refine lv_iconst (v := 0) hx hb dX8_command_5 (by decide) ?_
  refine lv_istore_n (lv' := [(2, .int 0), (1, .int 9), (0, .ref (ad G 723))]) hx hb dX8_command_6 rfl hl_17 (by decide) rfl (fun ls_18 hl_19 => ?_)
  refine lv_iconst (v := 0) hx hb dX8_command_7 (by decide) ?_
  refine lv_istore_n (lv' := [(3, .int 0), (2, .int 0), (1, .int 9), (0, .ref (ad G 723))]) hx hb dX8_command_8 rfl hl_19 (by decide) rfl (fun ls_20 hl_21 => ?_)
  refine lv_aload_n hx hb dX8_command_9 rfl (lv_at hl_21 3 rfl) ?_
  refine gM_isWrong C hW_11 (hwc hwX8) (mc qw_1496) dX8_command_10 ?_
  refine g_top (y := w_9 (9)) (congrFun (rd_in (by decide) (rd_in (by decide) (rd_in (by decide) rd_out))) _) ?_
  refine g_top (y := 0) kn_15 ?_
  refine lv_if_eq (tgt := 17) hx hb dX8_command_13 (by decide) (fun _ => ?_) (fun h9 => absurd h9 (by decide))
  refine lv_aload_n hx hb dX8_command_17 rfl (lv_at hl_21 3 rfl) ?_
  refine lv_iload_n hx hb dX8_command_18 rfl (lv_at hl_21 2 rfl) ?_
  refine lv_iconst (v := 5) hx hb dX8_command_19 (by decide) ?_
  refine lv_icmp_eq (tgt := 29) hx hb dX8_command_20 (by decide) (fun h9 => absurd h9 (by decide)) (fun _ => ?_)
  refine lv_iload_n hx hb dX8_command_23 rfl (lv_at hl_21 2 rfl) ?_
  refine lv_bipush (v := 8) hx hb dX8_command_24 (by decide) ?_
  refine lv_icmp_lt (tgt := 33) hx hb dX8_command_26 (by decide) (fun h9 => absurd h9 (by decide)) (fun _ => ?_)
  refine lv_iconst (v := 3) hx hb dX8_command_29 (by decide) ?_
  refine lv_goto (tgt := 34) hx hb dX8_command_30 (by decide) ?_
  refine g_calli (va_runV (As := [.int 3]) (rest := []) C.1 (cX8_digits_ok l G (setRow (setRow (setRow (setRow X 15 w_9) 24 w_10) 16 (X.1 16)) 20 (X.1 20)) p1 L (show p1 ≤ L by omega) hL kn_14 kn_12 kn_15 3 (by omega)) (cwV 1 C.1.2.2.2.2 (gV qw_1903 qw_1905 qw_65 qw_81 qw_1906) rfl rfl rfl (by decide +kernel) ⟨Nat.le_of_ble_eq_true rfl, Nat.le_of_ble_eq_true rfl⟩) (g_rModel C hW_11 hS_7 [.int 3]) rfl rfl hl_21.1 rfl (lv_room (Nat.le_of_ble_eq_true rfl)) dX8_command_34 ⟨Nat.zero_le _, Nat.zero_le _⟩) hS_7 (fun r_23 Y_24 H_25 locs_26 hW_27 hS_28 h_22 => ?_)
  replace h_22 : r_23 = (dgM (X.1 22) L 3 p1).1 ∧ Y_24 = setRow (setRow (setRow (setRow (setRow X 15 w_9) 24 w_10) 16 (X.1 16)) 20 (X.1 20)) 15 (ps w_9 (dgM (X.1 22) L 3 p1).2.1 (dgM (X.1 22) L 3 p1).2.2) := h_22
  obtain ⟨n_29, p_30, c_31, hd_32⟩ : ∃ x9 y9 z9, dgM (X.1 22) L 3 p1 = (x9, y9, z9) := ⟨_, _, _, rfl⟩
  rw [hd_32] at h_22
  obtain ⟨h_33, h_22⟩ := h_22
  replace h_33 : r_23 = n_29 := h_33
  subst h_33
  have hp_30 : p_30 ≤ L := dgM_le (show p1 ≤ L by omega) hd_32
  rcases dgM_b hd_32 with hbc_31 | hbc_31
  · rw [hbc_31] at hd_32 h_22
    replace h_22 : Y_24 = setRow (setRow (setRow (setRow (setRow X 15 w_9) 24 w_10) 16 (X.1 16)) 20 (X.1 20)) 15 (ps w_9 p_30 0) := h_22
    replace h_22 : Y_24 = setRow (setRow (setRow (setRow (setRow X 15 w_9) 24 w_10) 16 (X.1 16)) 20 (X.1 20)) 15 (ps w_9 p_30 0) := h_22
    obtain ⟨w_34, ew_34⟩ : ∃ Z9, Z9 = ps w_9 p_30 0 := ⟨_, rfl⟩
    have qqw_34 : Y_24 = setRow (setRow (setRow (setRow (setRow X 15 w_9) 24 w_10) 16 (X.1 16)) 20 (X.1 20)) 15 w_34 := by rw [h_22, ew_34]
    have hW_35 : Wd G (setRow (setRow (setRow (setRow X 15 w_34) 24 w_10) 16 (X.1 16)) 20 (X.1 20)) H_25 := Wd.cast ((qqw_34).trans (congrArg (fun Z9 => Z9) (sr_in (by decide) (sr_in (by decide) (sr_in (by decide) sr_out))))) hW_27
    have kn_36 : w_34 (7) = nI L := by rw [ew_34]; exact (ps_o (by decide) (by decide)).trans kn_12
    have kn_37 : w_34 (10) = 1 := by rw [ew_34]; exact (ps_o (by decide) (by decide)).trans kn_13
    have kn_38 : w_34 (6) = nI p_30 := by rw [ew_34]; exact ps_6
    have kn_39 : w_34 (9) = 0 := by rw [ew_34]; exact ps_9
    refine lv_istore (lv' := [(4, .int r_23), (3, .int 0), (2, .int 0), (1, .int 9), (0, .ref (ad G 723))]) hx hb dX8_command_37 hl_21 (by decide) rfl (fun ls_40 hl_41 => ?_)
    refine lv_iload_n hx hb dX8_command_39 rfl (lv_at hl_41 3 rfl) ?_
    refine lv_if_ne (tgt := 55) hx hb dX8_command_40 (by decide) (fun _ => ?_) (fun h9 => absurd h9 (by decide))
    refine lv_iload_n hx hb dX8_command_55 rfl (lv_at hl_41 3 rfl) ?_
    refine lv_if_ne (tgt := 72) hx hb dX8_command_56 (by decide) (fun _ => ?_) (fun h9 => absurd h9 (by decide))
    refine lv_iload_n hx hb dX8_command_72 rfl (lv_at hl_41 3 rfl) ?_
    refine lv_iconst (v := 1) hx hb dX8_command_73 (by decide) ?_
    refine lv_icmp_eq (tgt := 99) hx hb dX8_command_74 (by decide) (fun h9 => absurd h9 (by decide)) (fun _ => ?_)
    refine lv_iload_n hx hb dX8_command_77 rfl (lv_at hl_41 3 rfl) ?_
    refine lv_iconst (v := 3) hx hb dX8_command_78 (by decide) ?_
    refine lv_icmp_eq (tgt := 99) hx hb dX8_command_79 (by decide) (fun h9 => absurd h9 (by decide)) (fun _ => ?_)
    refine lv_iload_n hx hb dX8_command_82 rfl (lv_at hl_41 3 rfl) ?_
    refine lv_iconst (v := 4) hx hb dX8_command_83 (by decide) ?_
    refine lv_icmp_eq (tgt := 99) hx hb dX8_command_84 (by decide) (fun h9 => absurd h9 (by decide)) (fun _ => ?_)
    refine lv_iload_n hx hb dX8_command_87 rfl (lv_at hl_41 3 rfl) ?_
    refine lv_bipush (v := 6) hx hb dX8_command_88 (by decide) ?_
    refine lv_icmp_eq (tgt := 99) hx hb dX8_command_90 (by decide) (fun h9 => absurd h9 (by decide)) (fun _ => ?_)
    refine lv_iload_n hx hb dX8_command_93 rfl (lv_at hl_41 3 rfl) ?_
    refine lv_bipush (v := 8) hx hb dX8_command_94 (by decide) ?_
    refine lv_icmp_ne (tgt := 112) hx hb dX8_command_96 (by decide) (fun _ => ?_) (fun h9 => absurd h9 (by decide))
    refine lv_iload_n hx hb dX8_command_112 rfl (lv_at hl_41 3 rfl) ?_
    refine lv_iconst (v := 3) hx hb dX8_command_113 (by decide) ?_
    refine lv_icmp_ne (tgt := 130) hx hb dX8_command_114 (by decide) (fun _ => ?_) (fun h9 => absurd h9 (by decide))
    refine lv_aload_n hx hb dX8_command_130 rfl (lv_at hl_41 4 rfl) ?_
    refine gM_isWrong C hW_35 (hwc hwX8) (mc qw_1496) dX8_command_131 ?_
    refine g_top (y := w_34 (9)) (congrFun (rd_in (by decide) (rd_in (by decide) (rd_in (by decide) rd_out))) _) ?_
    refine g_top (y := 0) kn_39 ?_
    refine lv_if_ne (tgt := 144) hx hb dX8_command_134 (by decide) (fun h9 => absurd h9 (by decide)) (fun _ => ?_)
    refine lv_aload_n hx hb dX8_command_137 rfl (lv_at hl_41 4 rfl) ?_
    refine gM_isDoing C hW_35 (hwc hwX8) (mc qw_1497) dX8_command_138 ?_
    refine g_top (y := w_34 (10)) (congrFun (rd_in (by decide) (rd_in (by decide) (rd_in (by decide) rd_out))) _) ?_
    refine g_top (y := 1) kn_37 ?_
    refine lv_if_ne (tgt := 145) hx hb dX8_command_141 (by decide) (fun _ => ?_) (fun h9 => absurd h9 (by decide))
    refine lv_aload_n hx hb dX8_command_145 rfl (lv_at hl_41 4 rfl) ?_
    refine lv_iload_n hx hb dX8_command_146 rfl (lv_at hl_41 3 rfl) ?_
    refine lv_iload hx hb dX8_command_147 (lv_at hl_41 0 rfl) ?_
    refine lv_iload_n hx hb dX8_command_149 rfl (lv_at hl_41 2 rfl) ?_
    refine lv_iload_n hx hb dX8_command_150 rfl (lv_at hl_41 1 rfl) ?_
    refine g_calli (va_runV (As := [.int 9, .int r_23, .int 0, .int 0]) (rest := []) C.1 (cX8_does9_ok l G (setRow (setRow (setRow (setRow X 15 w_34) 24 w_10) 16 (X.1 16)) 20 (X.1 20)) r_23 0 0 hm) (cwV 4 C.1.2.2.2.2 (gV qw_1919 qw_1921 qw_69 qw_81 qw_1922) rfl rfl rfl (by decide +kernel) ⟨Nat.le_of_ble_eq_true rfl, Nat.le_of_ble_eq_true rfl⟩) (g_rModel C hW_35 hS_28 [.int 9, .int r_23, .int 0, .int 0]) rfl rfl hl_41.1 rfl (lv_room (Nat.le_of_ble_eq_true rfl)) dX8_command_151 ⟨Nat.zero_le _, Nat.zero_le _⟩) hS_28 (fun r_43 Y_44 H_45 locs_46 hW_47 hS_48 h_42 => ?_)
    replace h_42 : Y_44 = setRow (setRow (setRow (setRow (setRow (setRow (setRow X 15 w_34) 24 w_10) 16 (X.1 16)) 20 (X.1 20)) 15 ((doM 9 w_34 (X.1 16) (X.1 20) (X.1 21) r_23 0 0).1)) 16 ((doM 9 w_34 (X.1 16) (X.1 20) (X.1 21) r_23 0 0).2.1)) 20 ((doM 9 w_34 (X.1 16) (X.1 20) (X.1 21) r_23 0 0).2.2) := h_42
    obtain ⟨w_49, ew_49⟩ : ∃ Z9, Z9 = (doM 9 w_34 (X.1 16) (X.1 20) (X.1 21) r_23 0 0).1 := ⟨_, rfl⟩
    obtain ⟨w_50, ew_50⟩ : ∃ Z9, Z9 = (doM 9 w_34 (X.1 16) (X.1 20) (X.1 21) r_23 0 0).2.1 := ⟨_, rfl⟩
    obtain ⟨w_51, ew_51⟩ : ∃ Z9, Z9 = (doM 9 w_34 (X.1 16) (X.1 20) (X.1 21) r_23 0 0).2.2 := ⟨_, rfl⟩
    have qqw_49 : Y_44 = setRow (setRow (setRow (setRow (setRow (setRow (setRow X 15 w_34) 24 w_10) 16 (X.1 16)) 20 (X.1 20)) 15 w_49) 16 w_50) 20 w_51 := by rw [h_42, ew_49, ew_50, ew_51]
    have hW_52 : Wd G (setRow (setRow (setRow (setRow X 15 w_49) 24 w_10) 16 w_50) 20 w_51) H_45 := Wd.cast ((((qqw_49).trans (congrArg (fun Z9 => setRow (setRow (Z9) 16 w_50) 20 w_51) (sr_in (by decide) (sr_in (by decide) (sr_in (by decide) sr_out))))).trans (congrArg (fun Z9 => setRow (Z9) 20 w_51) (sr_in (by decide) sr_out))).trans (congrArg (fun Z9 => Z9) sr_out)) hW_47
    refine lv_istore (lv' := [(5, .int r_43), (4, .int r_23), (3, .int 0), (2, .int 0), (1, .int 9), (0, .ref (ad G 723))]) hx hb dX8_command_154 hl_41 (by decide) rfl (fun ls_53 hl_54 => ?_)
    exact g_vret C hr hlk hW_52 hS_48 dX8_command_156 (by subst ew_51; subst ew_50; subst ew_49; subst ew_34; subst ew_10; subst ew_9; simp only [ca5, hd_32, if_true, if_false, ps_ps, Nat.one_ne_zero])
  · rw [hbc_31] at hd_32 h_22
    replace h_22 : Y_24 = setRow (setRow (setRow (setRow (setRow X 15 w_9) 24 w_10) 16 (X.1 16)) 20 (X.1 20)) 15 (ps w_9 p_30 1) := h_22
    replace h_22 : Y_24 = setRow (setRow (setRow (setRow (setRow X 15 w_9) 24 w_10) 16 (X.1 16)) 20 (X.1 20)) 15 (ps w_9 p_30 1) := h_22
    obtain ⟨w_55, ew_55⟩ : ∃ Z9, Z9 = ps w_9 p_30 1 := ⟨_, rfl⟩
    have qqw_55 : Y_24 = setRow (setRow (setRow (setRow (setRow X 15 w_9) 24 w_10) 16 (X.1 16)) 20 (X.1 20)) 15 w_55 := by rw [h_22, ew_55]
    have hW_56 : Wd G (setRow (setRow (setRow (setRow X 15 w_55) 24 w_10) 16 (X.1 16)) 20 (X.1 20)) H_25 := Wd.cast ((qqw_55).trans (congrArg (fun Z9 => Z9) (sr_in (by decide) (sr_in (by decide) (sr_in (by decide) sr_out))))) hW_27
    have kn_57 : w_55 (7) = nI L := by rw [ew_55]; exact (ps_o (by decide) (by decide)).trans kn_12
    have kn_58 : w_55 (10) = 1 := by rw [ew_55]; exact (ps_o (by decide) (by decide)).trans kn_13
    have kn_59 : w_55 (6) = nI p_30 := by rw [ew_55]; exact ps_6
    have kn_60 : w_55 (9) = 1 := by rw [ew_55]; exact ps_9
    refine lv_istore (lv' := [(4, .int r_23), (3, .int 0), (2, .int 0), (1, .int 9), (0, .ref (ad G 723))]) hx hb dX8_command_37 hl_21 (by decide) rfl (fun ls_61 hl_62 => ?_)
    refine lv_iload_n hx hb dX8_command_39 rfl (lv_at hl_62 3 rfl) ?_
    refine lv_if_ne (tgt := 55) hx hb dX8_command_40 (by decide) (fun _ => ?_) (fun h9 => absurd h9 (by decide))
    refine lv_iload_n hx hb dX8_command_55 rfl (lv_at hl_62 3 rfl) ?_
    refine lv_if_ne (tgt := 72) hx hb dX8_command_56 (by decide) (fun _ => ?_) (fun h9 => absurd h9 (by decide))
    refine lv_iload_n hx hb dX8_command_72 rfl (lv_at hl_62 3 rfl) ?_
    refine lv_iconst (v := 1) hx hb dX8_command_73 (by decide) ?_
    refine lv_icmp_eq (tgt := 99) hx hb dX8_command_74 (by decide) (fun h9 => absurd h9 (by decide)) (fun _ => ?_)
    refine lv_iload_n hx hb dX8_command_77 rfl (lv_at hl_62 3 rfl) ?_
    refine lv_iconst (v := 3) hx hb dX8_command_78 (by decide) ?_
    refine lv_icmp_eq (tgt := 99) hx hb dX8_command_79 (by decide) (fun h9 => absurd h9 (by decide)) (fun _ => ?_)
    refine lv_iload_n hx hb dX8_command_82 rfl (lv_at hl_62 3 rfl) ?_
    refine lv_iconst (v := 4) hx hb dX8_command_83 (by decide) ?_
    refine lv_icmp_eq (tgt := 99) hx hb dX8_command_84 (by decide) (fun h9 => absurd h9 (by decide)) (fun _ => ?_)
    refine lv_iload_n hx hb dX8_command_87 rfl (lv_at hl_62 3 rfl) ?_
    refine lv_bipush (v := 6) hx hb dX8_command_88 (by decide) ?_
    refine lv_icmp_eq (tgt := 99) hx hb dX8_command_90 (by decide) (fun h9 => absurd h9 (by decide)) (fun _ => ?_)
    refine lv_iload_n hx hb dX8_command_93 rfl (lv_at hl_62 3 rfl) ?_
    refine lv_bipush (v := 8) hx hb dX8_command_94 (by decide) ?_
    refine lv_icmp_ne (tgt := 112) hx hb dX8_command_96 (by decide) (fun _ => ?_) (fun h9 => absurd h9 (by decide))
    refine lv_iload_n hx hb dX8_command_112 rfl (lv_at hl_62 3 rfl) ?_
    refine lv_iconst (v := 3) hx hb dX8_command_113 (by decide) ?_
    refine lv_icmp_ne (tgt := 130) hx hb dX8_command_114 (by decide) (fun _ => ?_) (fun h9 => absurd h9 (by decide))
    refine lv_aload_n hx hb dX8_command_130 rfl (lv_at hl_62 4 rfl) ?_
    refine gM_isWrong C hW_56 (hwc hwX8) (mc qw_1496) dX8_command_131 ?_
    refine g_top (y := w_55 (9)) (congrFun (rd_in (by decide) (rd_in (by decide) (rd_in (by decide) rd_out))) _) ?_
    refine g_top (y := 1) kn_60 ?_
    refine lv_if_ne (tgt := 144) hx hb dX8_command_134 (by decide) (fun _ => ?_) (fun h9 => absurd h9 (by decide))
    exact g_vret C hr hlk hW_56 hS_28 dX8_command_144 (absurd hok (by simp only [ca5, hd_32, if_true, if_false, ps_ps, Nat.one_ne_zero, not_false_eq_true]))
