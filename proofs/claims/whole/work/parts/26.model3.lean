/-! The reference's changes. -/
theorem nz_take {w : Nat → Int32} {i N k : Nat} {x : Int32} (h : ∃ s, s ≤ N ∧ MixS w i s) (hN : N ≤ 1000) (hx : x = nI k) (h1 : 1 ≤ k) (h2 : k ≤ 1000) (hle : x ≤ oM_mass w i) : ¬ oM_mass w i = 0 := by
  obtain ⟨s, hs, hm⟩ := h
  rw [hm.mass, hx] at hle
  rw [hm.mass]
  exact nz_of rfl (Nat.lt_of_lt_of_le h1 ((nI_leI (by omega) (by omega)).mp hle)) (by omega)
theorem nz_fill {w p : Nat → Int32} {i i2 N M k : Nat} {x : Int32} (h : ∃ s, s ≤ N ∧ MixS w i s) (h' : ∃ s, s ≤ M ∧ MixS w i2 s) (hN : N ≤ 1000) (hM : M ≤ 1000) (hx : x = nI k) (h1 : 1 ≤ k) (h2 : k ≤ 1000) (hle : x ≤ oM_mass w i) (hd : i2 + 4 ≤ i ∨ i + 4 ≤ i2) :
    ¬ oM_mass (oM_takes w p i x).1 i2 + oM_partMass (oM_takes w p i x).2 = 0 := by
  obtain ⟨s, hs, hm⟩ := h
  obtain ⟨t, ht, hm2⟩ := h'
  rw [hm.mass, hx] at hle
  have hks : k ≤ s := (nI_leI (by omega) (by omega)).mp hle
  rw [hx]
  have T := takes_ok (p := p) hm (by omega) (by omega) hks
  rw [(hm2.congr fun j hj => T.2.2 (i2 + j) (by omega)).mass, T.2.1.part, nI_add]
  exact nz_of rfl (by omega) (by omega)
theorem kp_cools {w : Nat → Int32} {l j : Nat} (h : j ≠ 27 + 5 * l + 4) : oM_cools w l j = w j := by
  unfold oM_cools
  split
  · exact pk_un h
  · rfl
theorem nz_backs {w p : Nat → Int32} {l f : Nat} (h : ∃ s, s ≤ 40 ∧ MixS w (27 + 5 * l) s) (h' : ∃ s, s ≤ 100 ∧ MixS w (9 + 6 * f) s) (h0 : ¬ oM_mass w (27 + 5 * l) = 0) (hd : f < 3) :
    ¬ oM_mass (oM_cools (oM_takes w p (27 + 5 * l) (oM_mass w (27 + 5 * l))).1 l) (9 + 6 * f) + 10 + oM_partMass (oM_takes w p (27 + 5 * l) (oM_mass w (27 + 5 * l))).2 = 0 := by
  obtain ⟨s, hs, hm⟩ := h
  rw [hm.mass] at h0 ⊢
  have hs0 : 0 < s := Nat.pos_of_ne_zero fun q => h0 (by rw [q]; rfl)
  have T := takes_ok (p := p) hm (by omega) hs0 (Nat.le_refl s)
  refine nz_feed (s := s) h' (fun j hj => ?_) T.2.1 (by omega)
  rw [kp_cools (by omega), T.2.2 _ (by omega)]
theorem nz_pour {w : Nat → Int32} {i N : Nat} {x : Int32} (h : ∃ s, s ≤ N ∧ MixS w i s) (hv : ∃ v, 1 ≤ v ∧ v ≤ 40 ∧ x = nI v) (hN : N ≤ 1000) (hle : x ≤ oM_mass w i) : ¬ oM_mass w i = 0 := by
  obtain ⟨v, h1, h2, h3⟩ := hv
  exact nz_take h hN h3 h1 (by omega) hle
def chP (p : Nat → Int32) (kind mass : Int32) : Nat → Int32 := upd (upd (upd (upd p 0 (if 0 = kind then mass else 0)) 1 (if 1 = kind then mass else 0)) 2 (if 2 = kind then mass else 0)) 3 (if 3 = kind then mass else 0)
def oM_charges (w15 : Nat → Int32) (w16 : Nat → Int32) (w20 : Nat → Int32) (f : Int32) (kind : Int32) (mass : Int32) : Int32 × ((Nat → Int32) × ((Nat → Int32) × (Nat → Int32))) := 
  if oM_isThree f = 0 then ((oM_fail w15 1).1, (oM_fail w15 1).2, w16, w20)
  else if kind < 0 then ((oM_fail w15 2).1, (oM_fail w15 2).2, w16, w20)
  else if oM_isIn mass 1 50 = 0 then ((oM_fail w15 2).1, (oM_fail w15 2).2, w16, w20)
  else if oM_mass w16 (9 + 6 * f.toNatClampNeg) + mass ≤ 100 then
    ((oM_feeds (upd w16 (1 + kind.toNatClampNeg) (w16 (1 + kind.toNatClampNeg) + mass)) (chP w20 kind mass) f.toNatClampNeg 20).1, w15,
     (oM_feeds (upd w16 (1 + kind.toNatClampNeg) (w16 (1 + kind.toNatClampNeg) + mass)) (chP w20 kind mass) f.toNatClampNeg 20).2, chP w20 kind mass)
  else ((oM_fail w15 3).1, (oM_fail w15 3).2, w16, w20)
set_option maxHeartbeats 4000000 in
set_option maxRecDepth 100000 in
theorem cX8_charges_ok (l : Launch) (G : GT) (X : St) (f : Int32) (kind : Int32) (mass : Int32) (hm : MInv (X.1 16)) (hk4 : ¬ kind < 0 → ∃ k, k < 4 ∧ kind = nI k) : MetI l G yX8_charges (wsG yX8_charges cX8_charges 5 (some .int)) (rmz 2 47) [.ref (ad G 723), .int f, .int kind, .int mass] X (fun res Y => res = (oM_charges (X.1 15) (X.1 16) (X.1 20) f kind mass).1 ∧ Y = setRow (setRow (setRow (X) 15 ((oM_charges (X.1 15) (X.1 16) (X.1 20) f kind mass).2.1)) 16 ((oM_charges (X.1 15) (X.1 16) (X.1 20) f kind mass).2.2.1)) 20 ((oM_charges (X.1 15) (X.1 16) (X.1 20) f kind mass).2.2.2)) := by
  refine g_met (cc := cX8_charges) (maxL := 5) (ret := (some .int)) (by decide) rfl (Nat.le_of_ble_eq_true rfl) ?_
  intro p e s m below meth c ls C hr hlk hnm hW hl
  have hx := C.1.1
  have hb := C.1.2.1
  have hS : va_S (Ab G) s.heap s.heap [] := va_S.rf
  have hl : lv_has ls 5 [(0, .ref (ad G 723)), (1, .int f), (2, .int kind), (3, .int mass)] := hl
  have hW : Wd G (setRow (setRow (setRow (X) 15 (X.1 15)) 16 (X.1 16)) 20 (X.1 20)) s.heap := Wd.cast ((((sr_same (X := setRow (setRow (X) 15 (X.1 15)) 16 (X.1 16)) (r := 20) rfl).trans (sr_same (X := setRow (X) 15 (X.1 15)) (r := 16) rfl)).trans (sr_same (X := X) (r := 15) rfl))).symm hW
  refine lv_iload_n hx hb dX8_charges_0 rfl (lv_at hl 1 rfl) ?_
  refine g_calli (va_runS (As := [.int f]) (rest := []) C.1 (cX8_isThree_ok l G (setRow (setRow (setRow X 15 (X.1 15)) 16 (X.1 16)) 20 (X.1 20)) f) (va_cwS 1 C.1.2.2.2.2 (gS qw_1565 qw_1566 qw_81 qw_1567) rfl rfl rfl (by decide +kernel) ⟨Nat.le_of_ble_eq_true rfl, Nat.le_of_ble_eq_true rfl⟩) (g_pre C hW hS [.int f]) rfl rfl hl.1 rfl (lv_room (Nat.le_of_ble_eq_true rfl)) dX8_charges_1 ⟨Nat.zero_le _, Nat.zero_le _⟩) hS (fun r_2 Y_3 H_4 locs_5 hW_6 hS_7 h_1 => ?_)
  obtain ⟨h_1, hy_8⟩ := h_1
  replace hy_8 := hy_8.symm
  subst hy_8
  replace h_1 : r_2 = oM_isThree f := h_1
  subst h_1
  refine lv_if_ne (tgt := 13) hx hb dX8_charges_4 (by decide) (fun b_9 => ?_) (fun b_9 => ?_)
  · obtain ⟨f_10, hf_10, rfl⟩ := three_in b_9
    refine lv_iload_n hx hb dX8_charges_13 rfl (lv_at hl 2 rfl) ?_
    refine lv_if_lt (tgt := 27) hx hb dX8_charges_14 (by decide) (fun b_11 => ?_) (fun b_11 => ?_)
    · refine lv_aload_n hx hb dX8_charges_27 rfl (lv_at hl 0 rfl) ?_
      refine lv_iconst (v := 2) hx hb dX8_charges_28 (by decide) ?_
      refine g_calli (va_runV (As := [.int 2]) (rest := []) C.1 (cX8_fail_ok l G (setRow (setRow (setRow X 15 (X.1 15)) 16 (X.1 16)) 20 (X.1 20)) 2) (cwV 1 C.1.2.2.2.2 (gV qw_1571 qw_1573 qw_31 qw_81 qw_1574) rfl rfl rfl (by decide +kernel) ⟨Nat.le_of_ble_eq_true rfl, Nat.le_of_ble_eq_true rfl⟩) (g_rModel C hW_6 hS_7 [.int 2]) rfl rfl hl.1 rfl (lv_room (Nat.le_of_ble_eq_true rfl)) dX8_charges_29 ⟨Nat.zero_le _, Nat.zero_le _⟩) hS_7 (fun r_13 Y_14 H_15 locs_16 hW_17 hS_18 h_12 => ?_)
      obtain ⟨h_19, h_12⟩ := h_12
      replace h_19 : r_13 = (oM_fail (X.1 15) 2).1 := h_19
      subst h_19
      replace h_12 : Y_14 = setRow (setRow (setRow (setRow X 15 (X.1 15)) 16 (X.1 16)) 20 (X.1 20)) 15 ((oM_fail (X.1 15) 2).2) := h_12
      obtain ⟨w_20, ew_20⟩ : ∃ Z9, Z9 = (oM_fail (X.1 15) 2).2 := ⟨_, rfl⟩
      have qqw_20 : Y_14 = setRow (setRow (setRow (setRow X 15 (X.1 15)) 16 (X.1 16)) 20 (X.1 20)) 15 w_20 := by rw [h_12, ew_20]
      have hW_21 : Wd G (setRow (setRow (setRow X 15 w_20) 16 (X.1 16)) 20 (X.1 20)) H_15 := Wd.cast ((qqw_20).trans (congrArg (fun Z9 => Z9) (sr_in (by decide) (sr_in (by decide) sr_out)))) hW_17
      exact g_iret C hr hlk hW_21 hS_18 dX8_charges_32 (by subst ew_20; exact ⟨(by first | rfl | (simp only [oM_charges, clf (show f_10 < 2 ^ 31 by omega), b_9, b_11, if_true, if_false, chP]; first | done | rfl)), (by first | rfl | (simp only [oM_charges, clf (show f_10 < 2 ^ 31 by omega), b_9, b_11, if_true, if_false, chP]; first | done | rfl))⟩)
    · obtain ⟨f_22, hf_22, rfl⟩ := hk4 b_11
      refine lv_iload_n hx hb dX8_charges_17 rfl (lv_at hl 3 rfl) ?_
      refine lv_iconst (v := 1) hx hb dX8_charges_18 (by decide) ?_
      refine lv_bipush (v := 50) hx hb dX8_charges_19 (by decide) ?_
      refine g_calli (va_runS (As := [.int mass, .int 1, .int 50]) (rest := []) C.1 (cX8_isIn_ok l G (setRow (setRow (setRow X 15 (X.1 15)) 16 (X.1 16)) 20 (X.1 20)) mass 1 50) (va_cwS 3 C.1.2.2.2.2 (gS qw_1568 qw_1569 qw_81 qw_1570) rfl rfl rfl (by decide +kernel) ⟨Nat.le_of_ble_eq_true rfl, Nat.le_of_ble_eq_true rfl⟩) (g_pre C hW_6 hS_7 [.int mass, .int 1, .int 50]) rfl rfl hl.1 rfl (lv_room (Nat.le_of_ble_eq_true rfl)) dX8_charges_21 ⟨Nat.zero_le _, Nat.zero_le _⟩) hS_7 (fun r_24 Y_25 H_26 locs_27 hW_28 hS_29 h_23 => ?_)
      obtain ⟨h_23, hy_30⟩ := h_23
      replace hy_30 := hy_30.symm
      subst hy_30
      replace h_23 : r_24 = oM_isIn mass 1 50 := h_23
      subst h_23
      refine lv_if_ne (tgt := 33) hx hb dX8_charges_24 (by decide) (fun b_31 => ?_) (fun b_31 => ?_)
      · obtain ⟨k0, hk01, hk02, hk03⟩ := isIn_nat (a := 1) (b := 50) (by decide) (by decide) b_31
        refine lv_aload_n hx hb dX8_charges_33 rfl (lv_at hl 0 rfl) ?_
        refine lv_iload_n hx hb dX8_charges_34 rfl (lv_at hl 1 rfl) ?_
        refine g_calli (va_runS (As := [.int (nI f_10)]) (rest := [.ref (ad G 723)]) C.1 (cX8_furnace_ok l G (setRow (setRow (setRow X 15 (X.1 15)) 16 (X.1 16)) 20 (X.1 20)) (nI f_10)) (va_cwS 1 C.1.2.2.2.2 (gS qw_1470 qw_1471 qw_81 qw_1472) rfl rfl rfl (by decide +kernel) ⟨Nat.le_of_ble_eq_true rfl, Nat.le_of_ble_eq_true rfl⟩) (g_pre C hW_28 hS_29 [.int (nI f_10)]) rfl rfl hl.1 rfl (lv_room (Nat.le_of_ble_eq_true rfl)) dX8_charges_35 ⟨Nat.zero_le _, Nat.zero_le _⟩) hS_29 (fun r_33 Y_34 H_35 locs_36 hW_37 hS_38 h_32 => ?_)
        obtain ⟨h_32, hy_39⟩ := h_32
        replace hy_39 := hy_39.symm
        subst hy_39
        replace h_32 : r_33 = oM_furnace (nI f_10) := h_32
        subst h_32
        refine g_top (y := nI (9 + 6 * f_10)) (at_furnace f_10) ?_
        refine g_calli (va_runV (As := [.int (nI (9 + 6 * f_10))]) (rest := []) C.1 (cX8_mass_ok l G (setRow (setRow (setRow X 15 (X.1 15)) 16 (X.1 16)) 20 (X.1 20)) (9 + 6 * f_10) (show 9 + 6 * f_10 + 4 ≤ 128 by omega)) (cwV 1 C.1.2.2.2.2 (gV qw_1575 qw_1577 qw_32 qw_81 qw_1578) rfl rfl rfl (by decide +kernel) ⟨Nat.le_of_ble_eq_true rfl, Nat.le_of_ble_eq_true rfl⟩) (g_rModel C hW_37 hS_38 [.int (nI (9 + 6 * f_10))]) rfl rfl hl.1 rfl (lv_room (Nat.le_of_ble_eq_true rfl)) dX8_charges_38 ⟨Nat.zero_le _, Nat.zero_le _⟩) hS_38 (fun r_41 Y_42 H_43 locs_44 hW_45 hS_46 h_40 => ?_)
        obtain ⟨h_40, hy_47⟩ := h_40
        replace hy_47 := hy_47.symm
        subst hy_47
        replace h_40 : r_41 = oM_mass (X.1 16) (9 + 6 * f_10) := h_40
        subst h_40
        refine lv_iload_n hx hb dX8_charges_41 rfl (lv_at hl 3 rfl) ?_
        refine lv_iadd hx hb dX8_charges_42 ?_
        refine lv_bipush (v := 100) hx hb dX8_charges_43 (by decide) ?_
        refine lv_icmp_le (tgt := 54) hx hb dX8_charges_45 (by decide) (fun b_48 => ?_) (fun b_48 => ?_)
        · refine lv_iconst (v := 0) hx hb dX8_charges_54 (by decide) ?_
          refine lv_istore (lv' := [(4, .int 0), (0, .ref (ad G 723)), (1, .int (nI f_10)), (2, .int (nI f_22)), (3, .int mass)]) hx hb dX8_charges_55 hl (by decide) rfl (fun ls_49 hl_50 => ?_)
          refine lv_iload hx hb dX8_charges_57 (lv_at hl_50 0 rfl) ?_
          refine lv_iconst (v := 4) hx hb dX8_charges_59 (by decide) ?_
          refine lv_icmp_ge (tgt := 87) hx hb dX8_charges_60 (by decide) (fun h9 => absurd h9 (by decide)) (fun _ => ?_)
          refine lv_aload_n hx hb dX8_charges_63 rfl (lv_at hl_50 1 rfl) ?_
          refine gM_part C hW_45 (hwc hwX8) (mc qw_1485) dX8_charges_64 ?_
          refine lv_iload hx hb dX8_charges_67 (lv_at hl_50 0 rfl) ?_
          refine lv_iload hx hb dX8_charges_69 (lv_at hl_50 0 rfl) ?_
          refine lv_iload_n hx hb dX8_charges_71 rfl (lv_at hl_50 3 rfl) ?_
          refine lv_icmp_ne (tgt := 79) hx hb dX8_charges_72 (by decide) (fun b_51 => ?_) (fun b_51 => ?_)
          · have fb_51 : ¬ 0 = f_22 := fun q9 => b_51 ((nI_eq (a := 0) (b := f_22) (by omega) (by omega)).mpr q9)
            refine lv_iconst (v := 0) hx hb dX8_charges_79 (by decide) ?_
            refine gm_partst C hW_45 hS_46 0 (by decide) (vlit (by decide)) dX8_charges_80 (fun H_52 locs_53 hW_54 hS_55 => ?_)
            obtain ⟨w_56, ew_56⟩ : ∃ Z9, Z9 = upd (X.1 20) (0) 0 := ⟨_, rfl⟩
            have kn_57 : w_56 (0) = 0 := by rw [ew_56]; exact pk_us
            have hW_58 : Wd G (setRow (setRow (setRow X 15 (X.1 15)) 16 (X.1 16)) 20 w_56) H_52 := Wd.cast (by rw [ew_56]; exact st_out) hW_54
            refine lv_iinc (v := 1) (lv' := [(4, .int 1), (0, .ref (ad G 723)), (1, .int (nI f_10)), (2, .int (nI f_22)), (3, .int mass)]) hx hb dX8_charges_81 hl_50 (k := 0) rfl (by decide) (by decide) rfl (fun ls_59 hl_60 => ?_)
            refine lv_goto (tgt := 57) hx hb dX8_charges_84 (by decide) ?_
            refine lv_iload hx hb dX8_charges_57 (lv_at hl_60 0 rfl) ?_
            refine lv_iconst (v := 4) hx hb dX8_charges_59 (by decide) ?_
            refine lv_icmp_ge (tgt := 87) hx hb dX8_charges_60 (by decide) (fun h9 => absurd h9 (by decide)) (fun _ => ?_)
            refine lv_aload_n hx hb dX8_charges_63 rfl (lv_at hl_60 1 rfl) ?_
            refine gM_part C hW_58 (hwc hwX8) (mc qw_1485) dX8_charges_64 ?_
            refine lv_iload hx hb dX8_charges_67 (lv_at hl_60 0 rfl) ?_
            refine lv_iload hx hb dX8_charges_69 (lv_at hl_60 0 rfl) ?_
            refine lv_iload_n hx hb dX8_charges_71 rfl (lv_at hl_60 3 rfl) ?_
            refine lv_icmp_ne (tgt := 79) hx hb dX8_charges_72 (by decide) (fun b_61 => ?_) (fun b_61 => ?_)
            · have fb_61 : ¬ 1 = f_22 := fun q9 => b_61 ((nI_eq (a := 1) (b := f_22) (by omega) (by omega)).mpr q9)
              refine lv_iconst (v := 0) hx hb dX8_charges_79 (by decide) ?_
              refine gm_partst C hW_58 hS_55 1 (by decide) (vlit (by decide)) dX8_charges_80 (fun H_62 locs_63 hW_64 hS_65 => ?_)
              obtain ⟨w_66, ew_66⟩ : ∃ Z9, Z9 = upd w_56 (1) 0 := ⟨_, rfl⟩
              have kn_67 : w_66 (0) = 0 := by rw [ew_66]; exact (pk_un (by omega)).trans kn_57
              have kn_68 : w_66 (1) = 0 := by rw [ew_66]; exact pk_us
              have hW_69 : Wd G (setRow (setRow (setRow X 15 (X.1 15)) 16 (X.1 16)) 20 w_66) H_62 := Wd.cast (by rw [ew_66]; exact st_out) hW_64
              refine lv_iinc (v := 2) (lv' := [(4, .int 2), (0, .ref (ad G 723)), (1, .int (nI f_10)), (2, .int (nI f_22)), (3, .int mass)]) hx hb dX8_charges_81 hl_60 (k := 0) rfl (by decide) (by decide) rfl (fun ls_70 hl_71 => ?_)
              refine lv_goto (tgt := 57) hx hb dX8_charges_84 (by decide) ?_
              refine lv_iload hx hb dX8_charges_57 (lv_at hl_71 0 rfl) ?_
              refine lv_iconst (v := 4) hx hb dX8_charges_59 (by decide) ?_
              refine lv_icmp_ge (tgt := 87) hx hb dX8_charges_60 (by decide) (fun h9 => absurd h9 (by decide)) (fun _ => ?_)
              refine lv_aload_n hx hb dX8_charges_63 rfl (lv_at hl_71 1 rfl) ?_
              refine gM_part C hW_69 (hwc hwX8) (mc qw_1485) dX8_charges_64 ?_
              refine lv_iload hx hb dX8_charges_67 (lv_at hl_71 0 rfl) ?_
              refine lv_iload hx hb dX8_charges_69 (lv_at hl_71 0 rfl) ?_
              refine lv_iload_n hx hb dX8_charges_71 rfl (lv_at hl_71 3 rfl) ?_
              refine lv_icmp_ne (tgt := 79) hx hb dX8_charges_72 (by decide) (fun b_72 => ?_) (fun b_72 => ?_)
              · have fb_72 : ¬ 2 = f_22 := fun q9 => b_72 ((nI_eq (a := 2) (b := f_22) (by omega) (by omega)).mpr q9)
                refine lv_iconst (v := 0) hx hb dX8_charges_79 (by decide) ?_
                refine gm_partst C hW_69 hS_65 2 (by decide) (vlit (by decide)) dX8_charges_80 (fun H_73 locs_74 hW_75 hS_76 => ?_)
                obtain ⟨w_77, ew_77⟩ : ∃ Z9, Z9 = upd w_66 (2) 0 := ⟨_, rfl⟩
                have kn_78 : w_77 (0) = 0 := by rw [ew_77]; exact (pk_un (by omega)).trans kn_67
                have kn_79 : w_77 (1) = 0 := by rw [ew_77]; exact (pk_un (by omega)).trans kn_68
                have kn_80 : w_77 (2) = 0 := by rw [ew_77]; exact pk_us
                have hW_81 : Wd G (setRow (setRow (setRow X 15 (X.1 15)) 16 (X.1 16)) 20 w_77) H_73 := Wd.cast (by rw [ew_77]; exact st_out) hW_75
                refine lv_iinc (v := 3) (lv' := [(4, .int 3), (0, .ref (ad G 723)), (1, .int (nI f_10)), (2, .int (nI f_22)), (3, .int mass)]) hx hb dX8_charges_81 hl_71 (k := 0) rfl (by decide) (by decide) rfl (fun ls_82 hl_83 => ?_)
                refine lv_goto (tgt := 57) hx hb dX8_charges_84 (by decide) ?_
                refine lv_iload hx hb dX8_charges_57 (lv_at hl_83 0 rfl) ?_
                refine lv_iconst (v := 4) hx hb dX8_charges_59 (by decide) ?_
                refine lv_icmp_ge (tgt := 87) hx hb dX8_charges_60 (by decide) (fun h9 => absurd h9 (by decide)) (fun _ => ?_)
                refine lv_aload_n hx hb dX8_charges_63 rfl (lv_at hl_83 1 rfl) ?_
                refine gM_part C hW_81 (hwc hwX8) (mc qw_1485) dX8_charges_64 ?_
                refine lv_iload hx hb dX8_charges_67 (lv_at hl_83 0 rfl) ?_
                refine lv_iload hx hb dX8_charges_69 (lv_at hl_83 0 rfl) ?_
                refine lv_iload_n hx hb dX8_charges_71 rfl (lv_at hl_83 3 rfl) ?_
                refine lv_icmp_ne (tgt := 79) hx hb dX8_charges_72 (by decide) (fun b_84 => ?_) (fun b_84 => ?_)
                · have fb_84 : ¬ 3 = f_22 := fun q9 => b_84 ((nI_eq (a := 3) (b := f_22) (by omega) (by omega)).mpr q9)
                  refine lv_iconst (v := 0) hx hb dX8_charges_79 (by decide) ?_
                  refine gm_partst C hW_81 hS_76 3 (by decide) (vlit (by decide)) dX8_charges_80 (fun H_85 locs_86 hW_87 hS_88 => ?_)
                  obtain ⟨w_89, ew_89⟩ : ∃ Z9, Z9 = upd w_77 (3) 0 := ⟨_, rfl⟩
                  have kn_90 : w_89 (0) = 0 := by rw [ew_89]; exact (pk_un (by omega)).trans kn_78
                  have kn_91 : w_89 (1) = 0 := by rw [ew_89]; exact (pk_un (by omega)).trans kn_79
                  have kn_92 : w_89 (2) = 0 := by rw [ew_89]; exact (pk_un (by omega)).trans kn_80
                  have kn_93 : w_89 (3) = 0 := by rw [ew_89]; exact pk_us
                  have hW_94 : Wd G (setRow (setRow (setRow X 15 (X.1 15)) 16 (X.1 16)) 20 w_89) H_85 := Wd.cast (by rw [ew_89]; exact st_out) hW_87
                  refine lv_iinc (v := 4) (lv' := [(4, .int 4), (0, .ref (ad G 723)), (1, .int (nI f_10)), (2, .int (nI f_22)), (3, .int mass)]) hx hb dX8_charges_81 hl_83 (k := 0) rfl (by decide) (by decide) rfl (fun ls_95 hl_96 => ?_)
                  refine lv_goto (tgt := 57) hx hb dX8_charges_84 (by decide) ?_
                  refine lv_iload hx hb dX8_charges_57 (lv_at hl_96 0 rfl) ?_
                  refine lv_iconst (v := 4) hx hb dX8_charges_59 (by decide) ?_
                  refine lv_icmp_ge (tgt := 87) hx hb dX8_charges_60 (by decide) (fun _ => ?_) (fun h9 => absurd h9 (by decide))
                  refine lv_aload_n hx hb dX8_charges_87 rfl (lv_at hl_96 1 rfl) ?_
                  refine gM_v C hW_94 (hwc hwX8) (mc qw_1481) dX8_charges_88 ?_
                  refine lv_iconst (v := 1) hx hb dX8_charges_91 (by decide) ?_
                  refine lv_iload_n hx hb dX8_charges_92 rfl (lv_at hl_96 3 rfl) ?_
                  refine lv_iadd hx hb dX8_charges_93 ?_
                  refine g_top (y := nI (1 + f_22)) (nI_add 1 f_22) ?_
                  refine lv_dup2_11 hx hb dX8_charges_94 rfl rfl ?_
                  refine gm_vld C hW_94 (1 + f_22) (nI_clamp (by omega)) (vp_in_nI (show 1 + f_22 < 128 by omega) (by decide)) dX8_charges_95 ?_
                  refine g_top (y := X.1 16 (1 + f_22)) (congrFun (rd_in (by decide) rd_out) _) ?_
                  refine lv_iload_n hx hb dX8_charges_96 rfl (lv_at hl_96 4 rfl) ?_
                  refine lv_iadd hx hb dX8_charges_97 ?_
                  refine gm_vst C hW_94 hS_88 (1 + f_22) (nI_clamp (by omega)) (vp_in_nI (show 1 + f_22 < 128 by omega) (by decide)) dX8_charges_98 (fun H_97 locs_98 hW_99 hS_100 => ?_)
                  obtain ⟨w_101, ew_101⟩ : ∃ Z9, Z9 = upd (X.1 16) (1 + f_22) ((X.1 16 (1 + f_22)) + mass) := ⟨_, rfl⟩
                  have hW_102 : Wd G (setRow (setRow (setRow X 15 (X.1 15)) 16 w_101) 20 w_89) H_97 := Wd.cast (by rw [ew_101]; exact (st_in (by decide) st_out)) hW_99
                  refine lv_aload_n hx hb dX8_charges_99 rfl (lv_at hl_96 1 rfl) ?_
                  refine lv_iload_n hx hb dX8_charges_100 rfl (lv_at hl_96 2 rfl) ?_
                  refine lv_bipush (v := 20) hx hb dX8_charges_101 (by decide) ?_
                  refine g_calli (va_runV (As := [.int (nI f_10), .int 20]) (rest := []) C.1 (cX8_feeds_ok l G (setRow (setRow (setRow X 15 (X.1 15)) 16 w_101) 20 w_89) f_10 20 (show f_10 < 3 by omega) (nz_feed (s := 0 + 0 + 0 + 0) (hm.1 f_10 (by omega)) (fun j hj => by rw [ew_101]; exact pk_un (by omega)) ⟨0, 0, 0, 0, (by subst ew_101; subst ew_89; subst ew_77; subst ew_66; subst ew_56; rfl), (by subst ew_101; subst ew_89; subst ew_77; subst ew_66; subst ew_56; rfl), (by subst ew_101; subst ew_89; subst ew_77; subst ew_66; subst ew_56; rfl), (by subst ew_101; subst ew_89; subst ew_77; subst ew_66; subst ew_56; rfl), rfl⟩ (by omega))) (cwV 2 C.1.2.2.2.2 (gV qw_1579 qw_1581 qw_33 qw_81 qw_1582) rfl rfl rfl (by decide +kernel) ⟨Nat.le_of_ble_eq_true rfl, Nat.le_of_ble_eq_true rfl⟩) (g_rModel C hW_102 hS_100 [.int (nI f_10), .int 20]) rfl rfl hl_96.1 rfl (lv_room (Nat.le_of_ble_eq_true rfl)) dX8_charges_103 ⟨Nat.zero_le _, Nat.zero_le _⟩) hS_100 (fun r_104 Y_105 H_106 locs_107 hW_108 hS_109 h_103 => ?_)
                  obtain ⟨h_110, h_103⟩ := h_103
                  replace h_110 : r_104 = (oM_feeds w_101 w_89 f_10 20).1 := h_110
                  subst h_110
                  replace h_103 : Y_105 = setRow (setRow (setRow (setRow X 15 (X.1 15)) 16 w_101) 20 w_89) 16 ((oM_feeds w_101 w_89 f_10 20).2) := h_103
                  obtain ⟨w_111, ew_111⟩ : ∃ Z9, Z9 = (oM_feeds w_101 w_89 f_10 20).2 := ⟨_, rfl⟩
                  have qqw_111 : Y_105 = setRow (setRow (setRow (setRow X 15 (X.1 15)) 16 w_101) 20 w_89) 16 w_111 := by rw [h_103, ew_111]
                  have hW_112 : Wd G (setRow (setRow (setRow X 15 (X.1 15)) 16 w_111) 20 w_89) H_106 := Wd.cast ((qqw_111).trans (congrArg (fun Z9 => Z9) (sr_in (by decide) sr_out))) hW_108
                  exact g_iret C hr hlk hW_112 hS_109 dX8_charges_106 (by subst ew_111; subst ew_101; subst ew_89; subst ew_77; subst ew_66; subst ew_56; exact ⟨(by first | rfl | (simp only [oM_charges, clf (show f_10 < 2 ^ 31 by omega), clf (show f_22 < 2 ^ 31 by omega), b_9, b_11, b_31, b_48, b_51, b_61, b_72, b_84, if_true, if_false, chP]; first | done | rfl)), (by first | rfl | (simp only [oM_charges, clf (show f_10 < 2 ^ 31 by omega), clf (show f_22 < 2 ^ 31 by omega), b_9, b_11, b_31, b_48, b_51, b_61, b_72, b_84, if_true, if_false, chP]; first | done | rfl))⟩)
                · have fb_84 : 3 = f_22 := (nI_eq (a := 3) (b := f_22) (by omega) (by omega)).mp b_84
                  refine lv_iload_n hx hb dX8_charges_75 rfl (lv_at hl_83 4 rfl) ?_
                  refine lv_goto (tgt := 80) hx hb dX8_charges_76 (by decide) ?_
                  refine gm_partst C hW_81 hS_76 3 (by decide) (vlit (by decide)) dX8_charges_80 (fun H_113 locs_114 hW_115 hS_116 => ?_)
                  obtain ⟨w_117, ew_117⟩ : ∃ Z9, Z9 = upd w_77 (3) mass := ⟨_, rfl⟩
                  have kn_118 : w_117 (0) = 0 := by rw [ew_117]; exact (pk_un (by omega)).trans kn_78
                  have kn_119 : w_117 (1) = 0 := by rw [ew_117]; exact (pk_un (by omega)).trans kn_79
                  have kn_120 : w_117 (2) = 0 := by rw [ew_117]; exact (pk_un (by omega)).trans kn_80
                  have hW_121 : Wd G (setRow (setRow (setRow X 15 (X.1 15)) 16 (X.1 16)) 20 w_117) H_113 := Wd.cast (by rw [ew_117]; exact st_out) hW_115
                  refine lv_iinc (v := 4) (lv' := [(4, .int 4), (0, .ref (ad G 723)), (1, .int (nI f_10)), (2, .int (nI f_22)), (3, .int mass)]) hx hb dX8_charges_81 hl_83 (k := 0) rfl (by decide) (by decide) rfl (fun ls_122 hl_123 => ?_)
                  refine lv_goto (tgt := 57) hx hb dX8_charges_84 (by decide) ?_
                  refine lv_iload hx hb dX8_charges_57 (lv_at hl_123 0 rfl) ?_
                  refine lv_iconst (v := 4) hx hb dX8_charges_59 (by decide) ?_
                  refine lv_icmp_ge (tgt := 87) hx hb dX8_charges_60 (by decide) (fun _ => ?_) (fun h9 => absurd h9 (by decide))
                  refine lv_aload_n hx hb dX8_charges_87 rfl (lv_at hl_123 1 rfl) ?_
                  refine gM_v C hW_121 (hwc hwX8) (mc qw_1481) dX8_charges_88 ?_
                  refine lv_iconst (v := 1) hx hb dX8_charges_91 (by decide) ?_
                  refine lv_iload_n hx hb dX8_charges_92 rfl (lv_at hl_123 3 rfl) ?_
                  refine lv_iadd hx hb dX8_charges_93 ?_
                  refine g_top (y := nI (1 + f_22)) (nI_add 1 f_22) ?_
                  refine lv_dup2_11 hx hb dX8_charges_94 rfl rfl ?_
                  refine gm_vld C hW_121 (1 + f_22) (nI_clamp (by omega)) (vp_in_nI (show 1 + f_22 < 128 by omega) (by decide)) dX8_charges_95 ?_
                  refine g_top (y := X.1 16 (1 + f_22)) (congrFun (rd_in (by decide) rd_out) _) ?_
                  refine lv_iload_n hx hb dX8_charges_96 rfl (lv_at hl_123 4 rfl) ?_
                  refine lv_iadd hx hb dX8_charges_97 ?_
                  refine gm_vst C hW_121 hS_116 (1 + f_22) (nI_clamp (by omega)) (vp_in_nI (show 1 + f_22 < 128 by omega) (by decide)) dX8_charges_98 (fun H_124 locs_125 hW_126 hS_127 => ?_)
                  obtain ⟨w_128, ew_128⟩ : ∃ Z9, Z9 = upd (X.1 16) (1 + f_22) ((X.1 16 (1 + f_22)) + mass) := ⟨_, rfl⟩
                  have hW_129 : Wd G (setRow (setRow (setRow X 15 (X.1 15)) 16 w_128) 20 w_117) H_124 := Wd.cast (by rw [ew_128]; exact (st_in (by decide) st_out)) hW_126
                  refine lv_aload_n hx hb dX8_charges_99 rfl (lv_at hl_123 1 rfl) ?_
                  refine lv_iload_n hx hb dX8_charges_100 rfl (lv_at hl_123 2 rfl) ?_
                  refine lv_bipush (v := 20) hx hb dX8_charges_101 (by decide) ?_
                  refine g_calli (va_runV (As := [.int (nI f_10), .int 20]) (rest := []) C.1 (cX8_feeds_ok l G (setRow (setRow (setRow X 15 (X.1 15)) 16 w_128) 20 w_117) f_10 20 (show f_10 < 3 by omega) (nz_feed (s := 0 + 0 + 0 + k0) (hm.1 f_10 (by omega)) (fun j hj => by rw [ew_128]; exact pk_un (by omega)) ⟨0, 0, 0, k0, (by subst ew_128; subst ew_117; subst ew_77; subst ew_66; subst ew_56; rfl), (by subst ew_128; subst ew_117; subst ew_77; subst ew_66; subst ew_56; rfl), (by subst ew_128; subst ew_117; subst ew_77; subst ew_66; subst ew_56; rfl), (by subst ew_128; subst ew_117; subst ew_77; subst ew_66; subst ew_56; exact hk03), rfl⟩ (by omega))) (cwV 2 C.1.2.2.2.2 (gV qw_1579 qw_1581 qw_33 qw_81 qw_1582) rfl rfl rfl (by decide +kernel) ⟨Nat.le_of_ble_eq_true rfl, Nat.le_of_ble_eq_true rfl⟩) (g_rModel C hW_129 hS_127 [.int (nI f_10), .int 20]) rfl rfl hl_123.1 rfl (lv_room (Nat.le_of_ble_eq_true rfl)) dX8_charges_103 ⟨Nat.zero_le _, Nat.zero_le _⟩) hS_127 (fun r_131 Y_132 H_133 locs_134 hW_135 hS_136 h_130 => ?_)
                  obtain ⟨h_137, h_130⟩ := h_130
                  replace h_137 : r_131 = (oM_feeds w_128 w_117 f_10 20).1 := h_137
                  subst h_137
                  replace h_130 : Y_132 = setRow (setRow (setRow (setRow X 15 (X.1 15)) 16 w_128) 20 w_117) 16 ((oM_feeds w_128 w_117 f_10 20).2) := h_130
                  obtain ⟨w_138, ew_138⟩ : ∃ Z9, Z9 = (oM_feeds w_128 w_117 f_10 20).2 := ⟨_, rfl⟩
                  have qqw_138 : Y_132 = setRow (setRow (setRow (setRow X 15 (X.1 15)) 16 w_128) 20 w_117) 16 w_138 := by rw [h_130, ew_138]
                  have hW_139 : Wd G (setRow (setRow (setRow X 15 (X.1 15)) 16 w_138) 20 w_117) H_133 := Wd.cast ((qqw_138).trans (congrArg (fun Z9 => Z9) (sr_in (by decide) sr_out))) hW_135
                  exact g_iret C hr hlk hW_139 hS_136 dX8_charges_106 (by subst ew_138; subst ew_128; subst ew_117; subst ew_77; subst ew_66; subst ew_56; exact ⟨(by first | rfl | (simp only [oM_charges, clf (show f_10 < 2 ^ 31 by omega), clf (show f_22 < 2 ^ 31 by omega), b_9, b_11, b_31, b_48, b_51, b_61, b_72, eq_true b_84, if_true, if_false, chP]; first | done | rfl)), (by first | rfl | (simp only [oM_charges, clf (show f_10 < 2 ^ 31 by omega), clf (show f_22 < 2 ^ 31 by omega), b_9, b_11, b_31, b_48, b_51, b_61, b_72, eq_true b_84, if_true, if_false, chP]; first | done | rfl))⟩)
              · have fb_72 : 2 = f_22 := (nI_eq (a := 2) (b := f_22) (by omega) (by omega)).mp b_72
                refine lv_iload_n hx hb dX8_charges_75 rfl (lv_at hl_71 4 rfl) ?_
                refine lv_goto (tgt := 80) hx hb dX8_charges_76 (by decide) ?_
                refine gm_partst C hW_69 hS_65 2 (by decide) (vlit (by decide)) dX8_charges_80 (fun H_140 locs_141 hW_142 hS_143 => ?_)
                obtain ⟨w_144, ew_144⟩ : ∃ Z9, Z9 = upd w_66 (2) mass := ⟨_, rfl⟩
                have kn_145 : w_144 (0) = 0 := by rw [ew_144]; exact (pk_un (by omega)).trans kn_67
                have kn_146 : w_144 (1) = 0 := by rw [ew_144]; exact (pk_un (by omega)).trans kn_68
                have hW_147 : Wd G (setRow (setRow (setRow X 15 (X.1 15)) 16 (X.1 16)) 20 w_144) H_140 := Wd.cast (by rw [ew_144]; exact st_out) hW_142
                refine lv_iinc (v := 3) (lv' := [(4, .int 3), (0, .ref (ad G 723)), (1, .int (nI f_10)), (2, .int (nI f_22)), (3, .int mass)]) hx hb dX8_charges_81 hl_71 (k := 0) rfl (by decide) (by decide) rfl (fun ls_148 hl_149 => ?_)
                refine lv_goto (tgt := 57) hx hb dX8_charges_84 (by decide) ?_
                refine lv_iload hx hb dX8_charges_57 (lv_at hl_149 0 rfl) ?_
                refine lv_iconst (v := 4) hx hb dX8_charges_59 (by decide) ?_
                refine lv_icmp_ge (tgt := 87) hx hb dX8_charges_60 (by decide) (fun h9 => absurd h9 (by decide)) (fun _ => ?_)
                refine lv_aload_n hx hb dX8_charges_63 rfl (lv_at hl_149 1 rfl) ?_
                refine gM_part C hW_147 (hwc hwX8) (mc qw_1485) dX8_charges_64 ?_
                refine lv_iload hx hb dX8_charges_67 (lv_at hl_149 0 rfl) ?_
                refine lv_iload hx hb dX8_charges_69 (lv_at hl_149 0 rfl) ?_
                refine lv_iload_n hx hb dX8_charges_71 rfl (lv_at hl_149 3 rfl) ?_
                refine lv_icmp_ne (tgt := 79) hx hb dX8_charges_72 (by decide) (fun b_150 => ?_) (fun b_150 => ?_)
                · have fb_150 : ¬ 3 = f_22 := fun q9 => b_150 ((nI_eq (a := 3) (b := f_22) (by omega) (by omega)).mpr q9)
                  refine lv_iconst (v := 0) hx hb dX8_charges_79 (by decide) ?_
                  refine gm_partst C hW_147 hS_143 3 (by decide) (vlit (by decide)) dX8_charges_80 (fun H_151 locs_152 hW_153 hS_154 => ?_)
                  obtain ⟨w_155, ew_155⟩ : ∃ Z9, Z9 = upd w_144 (3) 0 := ⟨_, rfl⟩
                  have kn_156 : w_155 (0) = 0 := by rw [ew_155]; exact (pk_un (by omega)).trans kn_145
                  have kn_157 : w_155 (1) = 0 := by rw [ew_155]; exact (pk_un (by omega)).trans kn_146
                  have kn_158 : w_155 (3) = 0 := by rw [ew_155]; exact pk_us
                  have hW_159 : Wd G (setRow (setRow (setRow X 15 (X.1 15)) 16 (X.1 16)) 20 w_155) H_151 := Wd.cast (by rw [ew_155]; exact st_out) hW_153
                  refine lv_iinc (v := 4) (lv' := [(4, .int 4), (0, .ref (ad G 723)), (1, .int (nI f_10)), (2, .int (nI f_22)), (3, .int mass)]) hx hb dX8_charges_81 hl_149 (k := 0) rfl (by decide) (by decide) rfl (fun ls_160 hl_161 => ?_)
                  refine lv_goto (tgt := 57) hx hb dX8_charges_84 (by decide) ?_
                  refine lv_iload hx hb dX8_charges_57 (lv_at hl_161 0 rfl) ?_
                  refine lv_iconst (v := 4) hx hb dX8_charges_59 (by decide) ?_
                  refine lv_icmp_ge (tgt := 87) hx hb dX8_charges_60 (by decide) (fun _ => ?_) (fun h9 => absurd h9 (by decide))
                  refine lv_aload_n hx hb dX8_charges_87 rfl (lv_at hl_161 1 rfl) ?_
                  refine gM_v C hW_159 (hwc hwX8) (mc qw_1481) dX8_charges_88 ?_
                  refine lv_iconst (v := 1) hx hb dX8_charges_91 (by decide) ?_
                  refine lv_iload_n hx hb dX8_charges_92 rfl (lv_at hl_161 3 rfl) ?_
                  refine lv_iadd hx hb dX8_charges_93 ?_
                  refine g_top (y := nI (1 + f_22)) (nI_add 1 f_22) ?_
                  refine lv_dup2_11 hx hb dX8_charges_94 rfl rfl ?_
                  refine gm_vld C hW_159 (1 + f_22) (nI_clamp (by omega)) (vp_in_nI (show 1 + f_22 < 128 by omega) (by decide)) dX8_charges_95 ?_
                  refine g_top (y := X.1 16 (1 + f_22)) (congrFun (rd_in (by decide) rd_out) _) ?_
                  refine lv_iload_n hx hb dX8_charges_96 rfl (lv_at hl_161 4 rfl) ?_
                  refine lv_iadd hx hb dX8_charges_97 ?_
                  refine gm_vst C hW_159 hS_154 (1 + f_22) (nI_clamp (by omega)) (vp_in_nI (show 1 + f_22 < 128 by omega) (by decide)) dX8_charges_98 (fun H_162 locs_163 hW_164 hS_165 => ?_)
                  obtain ⟨w_166, ew_166⟩ : ∃ Z9, Z9 = upd (X.1 16) (1 + f_22) ((X.1 16 (1 + f_22)) + mass) := ⟨_, rfl⟩
                  have hW_167 : Wd G (setRow (setRow (setRow X 15 (X.1 15)) 16 w_166) 20 w_155) H_162 := Wd.cast (by rw [ew_166]; exact (st_in (by decide) st_out)) hW_164
                  refine lv_aload_n hx hb dX8_charges_99 rfl (lv_at hl_161 1 rfl) ?_
                  refine lv_iload_n hx hb dX8_charges_100 rfl (lv_at hl_161 2 rfl) ?_
                  refine lv_bipush (v := 20) hx hb dX8_charges_101 (by decide) ?_
                  refine g_calli (va_runV (As := [.int (nI f_10), .int 20]) (rest := []) C.1 (cX8_feeds_ok l G (setRow (setRow (setRow X 15 (X.1 15)) 16 w_166) 20 w_155) f_10 20 (show f_10 < 3 by omega) (nz_feed (s := 0 + 0 + k0 + 0) (hm.1 f_10 (by omega)) (fun j hj => by rw [ew_166]; exact pk_un (by omega)) ⟨0, 0, k0, 0, (by subst ew_166; subst ew_155; subst ew_144; subst ew_66; subst ew_56; rfl), (by subst ew_166; subst ew_155; subst ew_144; subst ew_66; subst ew_56; rfl), (by subst ew_166; subst ew_155; subst ew_144; subst ew_66; subst ew_56; exact hk03), (by subst ew_166; subst ew_155; subst ew_144; subst ew_66; subst ew_56; rfl), rfl⟩ (by omega))) (cwV 2 C.1.2.2.2.2 (gV qw_1579 qw_1581 qw_33 qw_81 qw_1582) rfl rfl rfl (by decide +kernel) ⟨Nat.le_of_ble_eq_true rfl, Nat.le_of_ble_eq_true rfl⟩) (g_rModel C hW_167 hS_165 [.int (nI f_10), .int 20]) rfl rfl hl_161.1 rfl (lv_room (Nat.le_of_ble_eq_true rfl)) dX8_charges_103 ⟨Nat.zero_le _, Nat.zero_le _⟩) hS_165 (fun r_169 Y_170 H_171 locs_172 hW_173 hS_174 h_168 => ?_)
                  obtain ⟨h_175, h_168⟩ := h_168
                  replace h_175 : r_169 = (oM_feeds w_166 w_155 f_10 20).1 := h_175
                  subst h_175
                  replace h_168 : Y_170 = setRow (setRow (setRow (setRow X 15 (X.1 15)) 16 w_166) 20 w_155) 16 ((oM_feeds w_166 w_155 f_10 20).2) := h_168
                  obtain ⟨w_176, ew_176⟩ : ∃ Z9, Z9 = (oM_feeds w_166 w_155 f_10 20).2 := ⟨_, rfl⟩
                  have qqw_176 : Y_170 = setRow (setRow (setRow (setRow X 15 (X.1 15)) 16 w_166) 20 w_155) 16 w_176 := by rw [h_168, ew_176]
                  have hW_177 : Wd G (setRow (setRow (setRow X 15 (X.1 15)) 16 w_176) 20 w_155) H_171 := Wd.cast ((qqw_176).trans (congrArg (fun Z9 => Z9) (sr_in (by decide) sr_out))) hW_173
                  exact g_iret C hr hlk hW_177 hS_174 dX8_charges_106 (by subst ew_176; subst ew_166; subst ew_155; subst ew_144; subst ew_66; subst ew_56; exact ⟨(by first | rfl | (simp only [oM_charges, clf (show f_10 < 2 ^ 31 by omega), clf (show f_22 < 2 ^ 31 by omega), b_9, b_11, b_31, b_48, b_51, b_61, eq_true b_72, b_150, if_true, if_false, chP]; first | done | rfl)), (by first | rfl | (simp only [oM_charges, clf (show f_10 < 2 ^ 31 by omega), clf (show f_22 < 2 ^ 31 by omega), b_9, b_11, b_31, b_48, b_51, b_61, eq_true b_72, b_150, if_true, if_false, chP]; first | done | rfl))⟩)
                · have fb_150 : 3 = f_22 := (nI_eq (a := 3) (b := f_22) (by omega) (by omega)).mp b_150
                  refine lv_iload_n hx hb dX8_charges_75 rfl (lv_at hl_149 4 rfl) ?_
                  refine lv_goto (tgt := 80) hx hb dX8_charges_76 (by decide) ?_
                  refine gm_partst C hW_147 hS_143 3 (by decide) (vlit (by decide)) dX8_charges_80 (fun H_178 locs_179 hW_180 hS_181 => ?_)
                  obtain ⟨w_182, ew_182⟩ : ∃ Z9, Z9 = upd w_144 (3) mass := ⟨_, rfl⟩
                  have kn_183 : w_182 (0) = 0 := by rw [ew_182]; exact (pk_un (by omega)).trans kn_145
                  have kn_184 : w_182 (1) = 0 := by rw [ew_182]; exact (pk_un (by omega)).trans kn_146
                  have hW_185 : Wd G (setRow (setRow (setRow X 15 (X.1 15)) 16 (X.1 16)) 20 w_182) H_178 := Wd.cast (by rw [ew_182]; exact st_out) hW_180
                  refine lv_iinc (v := 4) (lv' := [(4, .int 4), (0, .ref (ad G 723)), (1, .int (nI f_10)), (2, .int (nI f_22)), (3, .int mass)]) hx hb dX8_charges_81 hl_149 (k := 0) rfl (by decide) (by decide) rfl (fun ls_186 hl_187 => ?_)
                  refine lv_goto (tgt := 57) hx hb dX8_charges_84 (by decide) ?_
                  refine lv_iload hx hb dX8_charges_57 (lv_at hl_187 0 rfl) ?_
                  refine lv_iconst (v := 4) hx hb dX8_charges_59 (by decide) ?_
                  refine lv_icmp_ge (tgt := 87) hx hb dX8_charges_60 (by decide) (fun _ => ?_) (fun h9 => absurd h9 (by decide))
                  refine lv_aload_n hx hb dX8_charges_87 rfl (lv_at hl_187 1 rfl) ?_
                  refine gM_v C hW_185 (hwc hwX8) (mc qw_1481) dX8_charges_88 ?_
                  refine lv_iconst (v := 1) hx hb dX8_charges_91 (by decide) ?_
                  refine lv_iload_n hx hb dX8_charges_92 rfl (lv_at hl_187 3 rfl) ?_
                  refine lv_iadd hx hb dX8_charges_93 ?_
                  refine g_top (y := nI (1 + f_22)) (nI_add 1 f_22) ?_
                  refine lv_dup2_11 hx hb dX8_charges_94 rfl rfl ?_
                  refine gm_vld C hW_185 (1 + f_22) (nI_clamp (by omega)) (vp_in_nI (show 1 + f_22 < 128 by omega) (by decide)) dX8_charges_95 ?_
                  refine g_top (y := X.1 16 (1 + f_22)) (congrFun (rd_in (by decide) rd_out) _) ?_
                  refine lv_iload_n hx hb dX8_charges_96 rfl (lv_at hl_187 4 rfl) ?_
                  refine lv_iadd hx hb dX8_charges_97 ?_
                  refine gm_vst C hW_185 hS_181 (1 + f_22) (nI_clamp (by omega)) (vp_in_nI (show 1 + f_22 < 128 by omega) (by decide)) dX8_charges_98 (fun H_188 locs_189 hW_190 hS_191 => ?_)
                  obtain ⟨w_192, ew_192⟩ : ∃ Z9, Z9 = upd (X.1 16) (1 + f_22) ((X.1 16 (1 + f_22)) + mass) := ⟨_, rfl⟩
                  have hW_193 : Wd G (setRow (setRow (setRow X 15 (X.1 15)) 16 w_192) 20 w_182) H_188 := Wd.cast (by rw [ew_192]; exact (st_in (by decide) st_out)) hW_190
                  refine lv_aload_n hx hb dX8_charges_99 rfl (lv_at hl_187 1 rfl) ?_
                  refine lv_iload_n hx hb dX8_charges_100 rfl (lv_at hl_187 2 rfl) ?_
                  refine lv_bipush (v := 20) hx hb dX8_charges_101 (by decide) ?_
                  refine g_calli (va_runV (As := [.int (nI f_10), .int 20]) (rest := []) C.1 (cX8_feeds_ok l G (setRow (setRow (setRow X 15 (X.1 15)) 16 w_192) 20 w_182) f_10 20 (show f_10 < 3 by omega) (nz_feed (s := 0 + 0 + k0 + k0) (hm.1 f_10 (by omega)) (fun j hj => by rw [ew_192]; exact pk_un (by omega)) ⟨0, 0, k0, k0, (by subst ew_192; subst ew_182; subst ew_144; subst ew_66; subst ew_56; rfl), (by subst ew_192; subst ew_182; subst ew_144; subst ew_66; subst ew_56; rfl), (by subst ew_192; subst ew_182; subst ew_144; subst ew_66; subst ew_56; exact hk03), (by subst ew_192; subst ew_182; subst ew_144; subst ew_66; subst ew_56; exact hk03), rfl⟩ (by omega))) (cwV 2 C.1.2.2.2.2 (gV qw_1579 qw_1581 qw_33 qw_81 qw_1582) rfl rfl rfl (by decide +kernel) ⟨Nat.le_of_ble_eq_true rfl, Nat.le_of_ble_eq_true rfl⟩) (g_rModel C hW_193 hS_191 [.int (nI f_10), .int 20]) rfl rfl hl_187.1 rfl (lv_room (Nat.le_of_ble_eq_true rfl)) dX8_charges_103 ⟨Nat.zero_le _, Nat.zero_le _⟩) hS_191 (fun r_195 Y_196 H_197 locs_198 hW_199 hS_200 h_194 => ?_)
                  obtain ⟨h_201, h_194⟩ := h_194
                  replace h_201 : r_195 = (oM_feeds w_192 w_182 f_10 20).1 := h_201
                  subst h_201
                  replace h_194 : Y_196 = setRow (setRow (setRow (setRow X 15 (X.1 15)) 16 w_192) 20 w_182) 16 ((oM_feeds w_192 w_182 f_10 20).2) := h_194
                  obtain ⟨w_202, ew_202⟩ : ∃ Z9, Z9 = (oM_feeds w_192 w_182 f_10 20).2 := ⟨_, rfl⟩
                  have qqw_202 : Y_196 = setRow (setRow (setRow (setRow X 15 (X.1 15)) 16 w_192) 20 w_182) 16 w_202 := by rw [h_194, ew_202]
                  have hW_203 : Wd G (setRow (setRow (setRow X 15 (X.1 15)) 16 w_202) 20 w_182) H_197 := Wd.cast ((qqw_202).trans (congrArg (fun Z9 => Z9) (sr_in (by decide) sr_out))) hW_199
                  exact g_iret C hr hlk hW_203 hS_200 dX8_charges_106 (by subst ew_202; subst ew_192; subst ew_182; subst ew_144; subst ew_66; subst ew_56; exact ⟨(by first | rfl | (simp only [oM_charges, clf (show f_10 < 2 ^ 31 by omega), clf (show f_22 < 2 ^ 31 by omega), b_9, b_11, b_31, b_48, b_51, b_61, eq_true b_72, eq_true b_150, if_true, if_false, chP]; first | done | rfl)), (by first | rfl | (simp only [oM_charges, clf (show f_10 < 2 ^ 31 by omega), clf (show f_22 < 2 ^ 31 by omega), b_9, b_11, b_31, b_48, b_51, b_61, eq_true b_72, eq_true b_150, if_true, if_false, chP]; first | done | rfl))⟩)
            · have fb_61 : 1 = f_22 := (nI_eq (a := 1) (b := f_22) (by omega) (by omega)).mp b_61
              refine lv_iload_n hx hb dX8_charges_75 rfl (lv_at hl_60 4 rfl) ?_
              refine lv_goto (tgt := 80) hx hb dX8_charges_76 (by decide) ?_
              refine gm_partst C hW_58 hS_55 1 (by decide) (vlit (by decide)) dX8_charges_80 (fun H_204 locs_205 hW_206 hS_207 => ?_)
              obtain ⟨w_208, ew_208⟩ : ∃ Z9, Z9 = upd w_56 (1) mass := ⟨_, rfl⟩
              have kn_209 : w_208 (0) = 0 := by rw [ew_208]; exact (pk_un (by omega)).trans kn_57
              have hW_210 : Wd G (setRow (setRow (setRow X 15 (X.1 15)) 16 (X.1 16)) 20 w_208) H_204 := Wd.cast (by rw [ew_208]; exact st_out) hW_206
              refine lv_iinc (v := 2) (lv' := [(4, .int 2), (0, .ref (ad G 723)), (1, .int (nI f_10)), (2, .int (nI f_22)), (3, .int mass)]) hx hb dX8_charges_81 hl_60 (k := 0) rfl (by decide) (by decide) rfl (fun ls_211 hl_212 => ?_)
              refine lv_goto (tgt := 57) hx hb dX8_charges_84 (by decide) ?_
              refine lv_iload hx hb dX8_charges_57 (lv_at hl_212 0 rfl) ?_
              refine lv_iconst (v := 4) hx hb dX8_charges_59 (by decide) ?_
              refine lv_icmp_ge (tgt := 87) hx hb dX8_charges_60 (by decide) (fun h9 => absurd h9 (by decide)) (fun _ => ?_)
              refine lv_aload_n hx hb dX8_charges_63 rfl (lv_at hl_212 1 rfl) ?_
              refine gM_part C hW_210 (hwc hwX8) (mc qw_1485) dX8_charges_64 ?_
              refine lv_iload hx hb dX8_charges_67 (lv_at hl_212 0 rfl) ?_
              refine lv_iload hx hb dX8_charges_69 (lv_at hl_212 0 rfl) ?_
              refine lv_iload_n hx hb dX8_charges_71 rfl (lv_at hl_212 3 rfl) ?_
              refine lv_icmp_ne (tgt := 79) hx hb dX8_charges_72 (by decide) (fun b_213 => ?_) (fun b_213 => ?_)
              · have fb_213 : ¬ 2 = f_22 := fun q9 => b_213 ((nI_eq (a := 2) (b := f_22) (by omega) (by omega)).mpr q9)
                refine lv_iconst (v := 0) hx hb dX8_charges_79 (by decide) ?_
                refine gm_partst C hW_210 hS_207 2 (by decide) (vlit (by decide)) dX8_charges_80 (fun H_214 locs_215 hW_216 hS_217 => ?_)
                obtain ⟨w_218, ew_218⟩ : ∃ Z9, Z9 = upd w_208 (2) 0 := ⟨_, rfl⟩
                have kn_219 : w_218 (0) = 0 := by rw [ew_218]; exact (pk_un (by omega)).trans kn_209
                have kn_220 : w_218 (2) = 0 := by rw [ew_218]; exact pk_us
                have hW_221 : Wd G (setRow (setRow (setRow X 15 (X.1 15)) 16 (X.1 16)) 20 w_218) H_214 := Wd.cast (by rw [ew_218]; exact st_out) hW_216
                refine lv_iinc (v := 3) (lv' := [(4, .int 3), (0, .ref (ad G 723)), (1, .int (nI f_10)), (2, .int (nI f_22)), (3, .int mass)]) hx hb dX8_charges_81 hl_212 (k := 0) rfl (by decide) (by decide) rfl (fun ls_222 hl_223 => ?_)
                refine lv_goto (tgt := 57) hx hb dX8_charges_84 (by decide) ?_
                refine lv_iload hx hb dX8_charges_57 (lv_at hl_223 0 rfl) ?_
                refine lv_iconst (v := 4) hx hb dX8_charges_59 (by decide) ?_
                refine lv_icmp_ge (tgt := 87) hx hb dX8_charges_60 (by decide) (fun h9 => absurd h9 (by decide)) (fun _ => ?_)
                refine lv_aload_n hx hb dX8_charges_63 rfl (lv_at hl_223 1 rfl) ?_
                refine gM_part C hW_221 (hwc hwX8) (mc qw_1485) dX8_charges_64 ?_
                refine lv_iload hx hb dX8_charges_67 (lv_at hl_223 0 rfl) ?_
                refine lv_iload hx hb dX8_charges_69 (lv_at hl_223 0 rfl) ?_
                refine lv_iload_n hx hb dX8_charges_71 rfl (lv_at hl_223 3 rfl) ?_
                refine lv_icmp_ne (tgt := 79) hx hb dX8_charges_72 (by decide) (fun b_224 => ?_) (fun b_224 => ?_)
                · have fb_224 : ¬ 3 = f_22 := fun q9 => b_224 ((nI_eq (a := 3) (b := f_22) (by omega) (by omega)).mpr q9)
                  refine lv_iconst (v := 0) hx hb dX8_charges_79 (by decide) ?_
                  refine gm_partst C hW_221 hS_217 3 (by decide) (vlit (by decide)) dX8_charges_80 (fun H_225 locs_226 hW_227 hS_228 => ?_)
                  obtain ⟨w_229, ew_229⟩ : ∃ Z9, Z9 = upd w_218 (3) 0 := ⟨_, rfl⟩
                  have kn_230 : w_229 (0) = 0 := by rw [ew_229]; exact (pk_un (by omega)).trans kn_219
                  have kn_231 : w_229 (2) = 0 := by rw [ew_229]; exact (pk_un (by omega)).trans kn_220
                  have kn_232 : w_229 (3) = 0 := by rw [ew_229]; exact pk_us
                  have hW_233 : Wd G (setRow (setRow (setRow X 15 (X.1 15)) 16 (X.1 16)) 20 w_229) H_225 := Wd.cast (by rw [ew_229]; exact st_out) hW_227
                  refine lv_iinc (v := 4) (lv' := [(4, .int 4), (0, .ref (ad G 723)), (1, .int (nI f_10)), (2, .int (nI f_22)), (3, .int mass)]) hx hb dX8_charges_81 hl_223 (k := 0) rfl (by decide) (by decide) rfl (fun ls_234 hl_235 => ?_)
                  refine lv_goto (tgt := 57) hx hb dX8_charges_84 (by decide) ?_
                  refine lv_iload hx hb dX8_charges_57 (lv_at hl_235 0 rfl) ?_
                  refine lv_iconst (v := 4) hx hb dX8_charges_59 (by decide) ?_
                  refine lv_icmp_ge (tgt := 87) hx hb dX8_charges_60 (by decide) (fun _ => ?_) (fun h9 => absurd h9 (by decide))
                  refine lv_aload_n hx hb dX8_charges_87 rfl (lv_at hl_235 1 rfl) ?_
                  refine gM_v C hW_233 (hwc hwX8) (mc qw_1481) dX8_charges_88 ?_
                  refine lv_iconst (v := 1) hx hb dX8_charges_91 (by decide) ?_
                  refine lv_iload_n hx hb dX8_charges_92 rfl (lv_at hl_235 3 rfl) ?_
                  refine lv_iadd hx hb dX8_charges_93 ?_
                  refine g_top (y := nI (1 + f_22)) (nI_add 1 f_22) ?_
                  refine lv_dup2_11 hx hb dX8_charges_94 rfl rfl ?_
                  refine gm_vld C hW_233 (1 + f_22) (nI_clamp (by omega)) (vp_in_nI (show 1 + f_22 < 128 by omega) (by decide)) dX8_charges_95 ?_
                  refine g_top (y := X.1 16 (1 + f_22)) (congrFun (rd_in (by decide) rd_out) _) ?_
                  refine lv_iload_n hx hb dX8_charges_96 rfl (lv_at hl_235 4 rfl) ?_
                  refine lv_iadd hx hb dX8_charges_97 ?_
                  refine gm_vst C hW_233 hS_228 (1 + f_22) (nI_clamp (by omega)) (vp_in_nI (show 1 + f_22 < 128 by omega) (by decide)) dX8_charges_98 (fun H_236 locs_237 hW_238 hS_239 => ?_)
                  obtain ⟨w_240, ew_240⟩ : ∃ Z9, Z9 = upd (X.1 16) (1 + f_22) ((X.1 16 (1 + f_22)) + mass) := ⟨_, rfl⟩
                  have hW_241 : Wd G (setRow (setRow (setRow X 15 (X.1 15)) 16 w_240) 20 w_229) H_236 := Wd.cast (by rw [ew_240]; exact (st_in (by decide) st_out)) hW_238
                  refine lv_aload_n hx hb dX8_charges_99 rfl (lv_at hl_235 1 rfl) ?_
                  refine lv_iload_n hx hb dX8_charges_100 rfl (lv_at hl_235 2 rfl) ?_
                  refine lv_bipush (v := 20) hx hb dX8_charges_101 (by decide) ?_
                  refine g_calli (va_runV (As := [.int (nI f_10), .int 20]) (rest := []) C.1 (cX8_feeds_ok l G (setRow (setRow (setRow X 15 (X.1 15)) 16 w_240) 20 w_229) f_10 20 (show f_10 < 3 by omega) (nz_feed (s := 0 + k0 + 0 + 0) (hm.1 f_10 (by omega)) (fun j hj => by rw [ew_240]; exact pk_un (by omega)) ⟨0, k0, 0, 0, (by subst ew_240; subst ew_229; subst ew_218; subst ew_208; subst ew_56; rfl), (by subst ew_240; subst ew_229; subst ew_218; subst ew_208; subst ew_56; exact hk03), (by subst ew_240; subst ew_229; subst ew_218; subst ew_208; subst ew_56; rfl), (by subst ew_240; subst ew_229; subst ew_218; subst ew_208; subst ew_56; rfl), rfl⟩ (by omega))) (cwV 2 C.1.2.2.2.2 (gV qw_1579 qw_1581 qw_33 qw_81 qw_1582) rfl rfl rfl (by decide +kernel) ⟨Nat.le_of_ble_eq_true rfl, Nat.le_of_ble_eq_true rfl⟩) (g_rModel C hW_241 hS_239 [.int (nI f_10), .int 20]) rfl rfl hl_235.1 rfl (lv_room (Nat.le_of_ble_eq_true rfl)) dX8_charges_103 ⟨Nat.zero_le _, Nat.zero_le _⟩) hS_239 (fun r_243 Y_244 H_245 locs_246 hW_247 hS_248 h_242 => ?_)
                  obtain ⟨h_249, h_242⟩ := h_242
                  replace h_249 : r_243 = (oM_feeds w_240 w_229 f_10 20).1 := h_249
                  subst h_249
                  replace h_242 : Y_244 = setRow (setRow (setRow (setRow X 15 (X.1 15)) 16 w_240) 20 w_229) 16 ((oM_feeds w_240 w_229 f_10 20).2) := h_242
                  obtain ⟨w_250, ew_250⟩ : ∃ Z9, Z9 = (oM_feeds w_240 w_229 f_10 20).2 := ⟨_, rfl⟩
                  have qqw_250 : Y_244 = setRow (setRow (setRow (setRow X 15 (X.1 15)) 16 w_240) 20 w_229) 16 w_250 := by rw [h_242, ew_250]
                  have hW_251 : Wd G (setRow (setRow (setRow X 15 (X.1 15)) 16 w_250) 20 w_229) H_245 := Wd.cast ((qqw_250).trans (congrArg (fun Z9 => Z9) (sr_in (by decide) sr_out))) hW_247
                  exact g_iret C hr hlk hW_251 hS_248 dX8_charges_106 (by subst ew_250; subst ew_240; subst ew_229; subst ew_218; subst ew_208; subst ew_56; exact ⟨(by first | rfl | (simp only [oM_charges, clf (show f_10 < 2 ^ 31 by omega), clf (show f_22 < 2 ^ 31 by omega), b_9, b_11, b_31, b_48, b_51, eq_true b_61, b_213, b_224, if_true, if_false, chP]; first | done | rfl)), (by first | rfl | (simp only [oM_charges, clf (show f_10 < 2 ^ 31 by omega), clf (show f_22 < 2 ^ 31 by omega), b_9, b_11, b_31, b_48, b_51, eq_true b_61, b_213, b_224, if_true, if_false, chP]; first | done | rfl))⟩)
                · have fb_224 : 3 = f_22 := (nI_eq (a := 3) (b := f_22) (by omega) (by omega)).mp b_224
                  refine lv_iload_n hx hb dX8_charges_75 rfl (lv_at hl_223 4 rfl) ?_
                  refine lv_goto (tgt := 80) hx hb dX8_charges_76 (by decide) ?_
                  refine gm_partst C hW_221 hS_217 3 (by decide) (vlit (by decide)) dX8_charges_80 (fun H_252 locs_253 hW_254 hS_255 => ?_)
                  obtain ⟨w_256, ew_256⟩ : ∃ Z9, Z9 = upd w_218 (3) mass := ⟨_, rfl⟩
                  have kn_257 : w_256 (0) = 0 := by rw [ew_256]; exact (pk_un (by omega)).trans kn_219
                  have kn_258 : w_256 (2) = 0 := by rw [ew_256]; exact (pk_un (by omega)).trans kn_220
                  have hW_259 : Wd G (setRow (setRow (setRow X 15 (X.1 15)) 16 (X.1 16)) 20 w_256) H_252 := Wd.cast (by rw [ew_256]; exact st_out) hW_254
                  refine lv_iinc (v := 4) (lv' := [(4, .int 4), (0, .ref (ad G 723)), (1, .int (nI f_10)), (2, .int (nI f_22)), (3, .int mass)]) hx hb dX8_charges_81 hl_223 (k := 0) rfl (by decide) (by decide) rfl (fun ls_260 hl_261 => ?_)
                  refine lv_goto (tgt := 57) hx hb dX8_charges_84 (by decide) ?_
                  refine lv_iload hx hb dX8_charges_57 (lv_at hl_261 0 rfl) ?_
                  refine lv_iconst (v := 4) hx hb dX8_charges_59 (by decide) ?_
                  refine lv_icmp_ge (tgt := 87) hx hb dX8_charges_60 (by decide) (fun _ => ?_) (fun h9 => absurd h9 (by decide))
                  refine lv_aload_n hx hb dX8_charges_87 rfl (lv_at hl_261 1 rfl) ?_
                  refine gM_v C hW_259 (hwc hwX8) (mc qw_1481) dX8_charges_88 ?_
                  refine lv_iconst (v := 1) hx hb dX8_charges_91 (by decide) ?_
                  refine lv_iload_n hx hb dX8_charges_92 rfl (lv_at hl_261 3 rfl) ?_
                  refine lv_iadd hx hb dX8_charges_93 ?_
                  refine g_top (y := nI (1 + f_22)) (nI_add 1 f_22) ?_
                  refine lv_dup2_11 hx hb dX8_charges_94 rfl rfl ?_
                  refine gm_vld C hW_259 (1 + f_22) (nI_clamp (by omega)) (vp_in_nI (show 1 + f_22 < 128 by omega) (by decide)) dX8_charges_95 ?_
                  refine g_top (y := X.1 16 (1 + f_22)) (congrFun (rd_in (by decide) rd_out) _) ?_
                  refine lv_iload_n hx hb dX8_charges_96 rfl (lv_at hl_261 4 rfl) ?_
                  refine lv_iadd hx hb dX8_charges_97 ?_
                  refine gm_vst C hW_259 hS_255 (1 + f_22) (nI_clamp (by omega)) (vp_in_nI (show 1 + f_22 < 128 by omega) (by decide)) dX8_charges_98 (fun H_262 locs_263 hW_264 hS_265 => ?_)
                  obtain ⟨w_266, ew_266⟩ : ∃ Z9, Z9 = upd (X.1 16) (1 + f_22) ((X.1 16 (1 + f_22)) + mass) := ⟨_, rfl⟩
                  have hW_267 : Wd G (setRow (setRow (setRow X 15 (X.1 15)) 16 w_266) 20 w_256) H_262 := Wd.cast (by rw [ew_266]; exact (st_in (by decide) st_out)) hW_264
                  refine lv_aload_n hx hb dX8_charges_99 rfl (lv_at hl_261 1 rfl) ?_
                  refine lv_iload_n hx hb dX8_charges_100 rfl (lv_at hl_261 2 rfl) ?_
                  refine lv_bipush (v := 20) hx hb dX8_charges_101 (by decide) ?_
                  refine g_calli (va_runV (As := [.int (nI f_10), .int 20]) (rest := []) C.1 (cX8_feeds_ok l G (setRow (setRow (setRow X 15 (X.1 15)) 16 w_266) 20 w_256) f_10 20 (show f_10 < 3 by omega) (nz_feed (s := 0 + k0 + 0 + k0) (hm.1 f_10 (by omega)) (fun j hj => by rw [ew_266]; exact pk_un (by omega)) ⟨0, k0, 0, k0, (by subst ew_266; subst ew_256; subst ew_218; subst ew_208; subst ew_56; rfl), (by subst ew_266; subst ew_256; subst ew_218; subst ew_208; subst ew_56; exact hk03), (by subst ew_266; subst ew_256; subst ew_218; subst ew_208; subst ew_56; rfl), (by subst ew_266; subst ew_256; subst ew_218; subst ew_208; subst ew_56; exact hk03), rfl⟩ (by omega))) (cwV 2 C.1.2.2.2.2 (gV qw_1579 qw_1581 qw_33 qw_81 qw_1582) rfl rfl rfl (by decide +kernel) ⟨Nat.le_of_ble_eq_true rfl, Nat.le_of_ble_eq_true rfl⟩) (g_rModel C hW_267 hS_265 [.int (nI f_10), .int 20]) rfl rfl hl_261.1 rfl (lv_room (Nat.le_of_ble_eq_true rfl)) dX8_charges_103 ⟨Nat.zero_le _, Nat.zero_le _⟩) hS_265 (fun r_269 Y_270 H_271 locs_272 hW_273 hS_274 h_268 => ?_)
                  obtain ⟨h_275, h_268⟩ := h_268
                  replace h_275 : r_269 = (oM_feeds w_266 w_256 f_10 20).1 := h_275
                  subst h_275
                  replace h_268 : Y_270 = setRow (setRow (setRow (setRow X 15 (X.1 15)) 16 w_266) 20 w_256) 16 ((oM_feeds w_266 w_256 f_10 20).2) := h_268
                  obtain ⟨w_276, ew_276⟩ : ∃ Z9, Z9 = (oM_feeds w_266 w_256 f_10 20).2 := ⟨_, rfl⟩
                  have qqw_276 : Y_270 = setRow (setRow (setRow (setRow X 15 (X.1 15)) 16 w_266) 20 w_256) 16 w_276 := by rw [h_268, ew_276]
                  have hW_277 : Wd G (setRow (setRow (setRow X 15 (X.1 15)) 16 w_276) 20 w_256) H_271 := Wd.cast ((qqw_276).trans (congrArg (fun Z9 => Z9) (sr_in (by decide) sr_out))) hW_273
                  exact g_iret C hr hlk hW_277 hS_274 dX8_charges_106 (by subst ew_276; subst ew_266; subst ew_256; subst ew_218; subst ew_208; subst ew_56; exact ⟨(by first | rfl | (simp only [oM_charges, clf (show f_10 < 2 ^ 31 by omega), clf (show f_22 < 2 ^ 31 by omega), b_9, b_11, b_31, b_48, b_51, eq_true b_61, b_213, eq_true b_224, if_true, if_false, chP]; first | done | rfl)), (by first | rfl | (simp only [oM_charges, clf (show f_10 < 2 ^ 31 by omega), clf (show f_22 < 2 ^ 31 by omega), b_9, b_11, b_31, b_48, b_51, eq_true b_61, b_213, eq_true b_224, if_true, if_false, chP]; first | done | rfl))⟩)
              · have fb_213 : 2 = f_22 := (nI_eq (a := 2) (b := f_22) (by omega) (by omega)).mp b_213
                refine lv_iload_n hx hb dX8_charges_75 rfl (lv_at hl_212 4 rfl) ?_
                refine lv_goto (tgt := 80) hx hb dX8_charges_76 (by decide) ?_
                refine gm_partst C hW_210 hS_207 2 (by decide) (vlit (by decide)) dX8_charges_80 (fun H_278 locs_279 hW_280 hS_281 => ?_)
                obtain ⟨w_282, ew_282⟩ : ∃ Z9, Z9 = upd w_208 (2) mass := ⟨_, rfl⟩
                have kn_283 : w_282 (0) = 0 := by rw [ew_282]; exact (pk_un (by omega)).trans kn_209
                have hW_284 : Wd G (setRow (setRow (setRow X 15 (X.1 15)) 16 (X.1 16)) 20 w_282) H_278 := Wd.cast (by rw [ew_282]; exact st_out) hW_280
                refine lv_iinc (v := 3) (lv' := [(4, .int 3), (0, .ref (ad G 723)), (1, .int (nI f_10)), (2, .int (nI f_22)), (3, .int mass)]) hx hb dX8_charges_81 hl_212 (k := 0) rfl (by decide) (by decide) rfl (fun ls_285 hl_286 => ?_)
                refine lv_goto (tgt := 57) hx hb dX8_charges_84 (by decide) ?_
                refine lv_iload hx hb dX8_charges_57 (lv_at hl_286 0 rfl) ?_
                refine lv_iconst (v := 4) hx hb dX8_charges_59 (by decide) ?_
                refine lv_icmp_ge (tgt := 87) hx hb dX8_charges_60 (by decide) (fun h9 => absurd h9 (by decide)) (fun _ => ?_)
                refine lv_aload_n hx hb dX8_charges_63 rfl (lv_at hl_286 1 rfl) ?_
                refine gM_part C hW_284 (hwc hwX8) (mc qw_1485) dX8_charges_64 ?_
                refine lv_iload hx hb dX8_charges_67 (lv_at hl_286 0 rfl) ?_
                refine lv_iload hx hb dX8_charges_69 (lv_at hl_286 0 rfl) ?_
                refine lv_iload_n hx hb dX8_charges_71 rfl (lv_at hl_286 3 rfl) ?_
                refine lv_icmp_ne (tgt := 79) hx hb dX8_charges_72 (by decide) (fun b_287 => ?_) (fun b_287 => ?_)
                · have fb_287 : ¬ 3 = f_22 := fun q9 => b_287 ((nI_eq (a := 3) (b := f_22) (by omega) (by omega)).mpr q9)
                  refine lv_iconst (v := 0) hx hb dX8_charges_79 (by decide) ?_
                  refine gm_partst C hW_284 hS_281 3 (by decide) (vlit (by decide)) dX8_charges_80 (fun H_288 locs_289 hW_290 hS_291 => ?_)
                  obtain ⟨w_292, ew_292⟩ : ∃ Z9, Z9 = upd w_282 (3) 0 := ⟨_, rfl⟩
                  have kn_293 : w_292 (0) = 0 := by rw [ew_292]; exact (pk_un (by omega)).trans kn_283
                  have kn_294 : w_292 (3) = 0 := by rw [ew_292]; exact pk_us
                  have hW_295 : Wd G (setRow (setRow (setRow X 15 (X.1 15)) 16 (X.1 16)) 20 w_292) H_288 := Wd.cast (by rw [ew_292]; exact st_out) hW_290
                  refine lv_iinc (v := 4) (lv' := [(4, .int 4), (0, .ref (ad G 723)), (1, .int (nI f_10)), (2, .int (nI f_22)), (3, .int mass)]) hx hb dX8_charges_81 hl_286 (k := 0) rfl (by decide) (by decide) rfl (fun ls_296 hl_297 => ?_)
                  refine lv_goto (tgt := 57) hx hb dX8_charges_84 (by decide) ?_
                  refine lv_iload hx hb dX8_charges_57 (lv_at hl_297 0 rfl) ?_
                  refine lv_iconst (v := 4) hx hb dX8_charges_59 (by decide) ?_
                  refine lv_icmp_ge (tgt := 87) hx hb dX8_charges_60 (by decide) (fun _ => ?_) (fun h9 => absurd h9 (by decide))
                  refine lv_aload_n hx hb dX8_charges_87 rfl (lv_at hl_297 1 rfl) ?_
                  refine gM_v C hW_295 (hwc hwX8) (mc qw_1481) dX8_charges_88 ?_
                  refine lv_iconst (v := 1) hx hb dX8_charges_91 (by decide) ?_
                  refine lv_iload_n hx hb dX8_charges_92 rfl (lv_at hl_297 3 rfl) ?_
                  refine lv_iadd hx hb dX8_charges_93 ?_
                  refine g_top (y := nI (1 + f_22)) (nI_add 1 f_22) ?_
                  refine lv_dup2_11 hx hb dX8_charges_94 rfl rfl ?_
                  refine gm_vld C hW_295 (1 + f_22) (nI_clamp (by omega)) (vp_in_nI (show 1 + f_22 < 128 by omega) (by decide)) dX8_charges_95 ?_
                  refine g_top (y := X.1 16 (1 + f_22)) (congrFun (rd_in (by decide) rd_out) _) ?_
                  refine lv_iload_n hx hb dX8_charges_96 rfl (lv_at hl_297 4 rfl) ?_
                  refine lv_iadd hx hb dX8_charges_97 ?_
                  refine gm_vst C hW_295 hS_291 (1 + f_22) (nI_clamp (by omega)) (vp_in_nI (show 1 + f_22 < 128 by omega) (by decide)) dX8_charges_98 (fun H_298 locs_299 hW_300 hS_301 => ?_)
                  obtain ⟨w_302, ew_302⟩ : ∃ Z9, Z9 = upd (X.1 16) (1 + f_22) ((X.1 16 (1 + f_22)) + mass) := ⟨_, rfl⟩
                  have hW_303 : Wd G (setRow (setRow (setRow X 15 (X.1 15)) 16 w_302) 20 w_292) H_298 := Wd.cast (by rw [ew_302]; exact (st_in (by decide) st_out)) hW_300
                  refine lv_aload_n hx hb dX8_charges_99 rfl (lv_at hl_297 1 rfl) ?_
                  refine lv_iload_n hx hb dX8_charges_100 rfl (lv_at hl_297 2 rfl) ?_
                  refine lv_bipush (v := 20) hx hb dX8_charges_101 (by decide) ?_
                  refine g_calli (va_runV (As := [.int (nI f_10), .int 20]) (rest := []) C.1 (cX8_feeds_ok l G (setRow (setRow (setRow X 15 (X.1 15)) 16 w_302) 20 w_292) f_10 20 (show f_10 < 3 by omega) (nz_feed (s := 0 + k0 + k0 + 0) (hm.1 f_10 (by omega)) (fun j hj => by rw [ew_302]; exact pk_un (by omega)) ⟨0, k0, k0, 0, (by subst ew_302; subst ew_292; subst ew_282; subst ew_208; subst ew_56; rfl), (by subst ew_302; subst ew_292; subst ew_282; subst ew_208; subst ew_56; exact hk03), (by subst ew_302; subst ew_292; subst ew_282; subst ew_208; subst ew_56; exact hk03), (by subst ew_302; subst ew_292; subst ew_282; subst ew_208; subst ew_56; rfl), rfl⟩ (by omega))) (cwV 2 C.1.2.2.2.2 (gV qw_1579 qw_1581 qw_33 qw_81 qw_1582) rfl rfl rfl (by decide +kernel) ⟨Nat.le_of_ble_eq_true rfl, Nat.le_of_ble_eq_true rfl⟩) (g_rModel C hW_303 hS_301 [.int (nI f_10), .int 20]) rfl rfl hl_297.1 rfl (lv_room (Nat.le_of_ble_eq_true rfl)) dX8_charges_103 ⟨Nat.zero_le _, Nat.zero_le _⟩) hS_301 (fun r_305 Y_306 H_307 locs_308 hW_309 hS_310 h_304 => ?_)
                  obtain ⟨h_311, h_304⟩ := h_304
                  replace h_311 : r_305 = (oM_feeds w_302 w_292 f_10 20).1 := h_311
                  subst h_311
                  replace h_304 : Y_306 = setRow (setRow (setRow (setRow X 15 (X.1 15)) 16 w_302) 20 w_292) 16 ((oM_feeds w_302 w_292 f_10 20).2) := h_304
                  obtain ⟨w_312, ew_312⟩ : ∃ Z9, Z9 = (oM_feeds w_302 w_292 f_10 20).2 := ⟨_, rfl⟩
                  have qqw_312 : Y_306 = setRow (setRow (setRow (setRow X 15 (X.1 15)) 16 w_302) 20 w_292) 16 w_312 := by rw [h_304, ew_312]
                  have hW_313 : Wd G (setRow (setRow (setRow X 15 (X.1 15)) 16 w_312) 20 w_292) H_307 := Wd.cast ((qqw_312).trans (congrArg (fun Z9 => Z9) (sr_in (by decide) sr_out))) hW_309
                  exact g_iret C hr hlk hW_313 hS_310 dX8_charges_106 (by subst ew_312; subst ew_302; subst ew_292; subst ew_282; subst ew_208; subst ew_56; exact ⟨(by first | rfl | (simp only [oM_charges, clf (show f_10 < 2 ^ 31 by omega), clf (show f_22 < 2 ^ 31 by omega), b_9, b_11, b_31, b_48, b_51, eq_true b_61, eq_true b_213, b_287, if_true, if_false, chP]; first | done | rfl)), (by first | rfl | (simp only [oM_charges, clf (show f_10 < 2 ^ 31 by omega), clf (show f_22 < 2 ^ 31 by omega), b_9, b_11, b_31, b_48, b_51, eq_true b_61, eq_true b_213, b_287, if_true, if_false, chP]; first | done | rfl))⟩)
                · have fb_287 : 3 = f_22 := (nI_eq (a := 3) (b := f_22) (by omega) (by omega)).mp b_287
                  refine lv_iload_n hx hb dX8_charges_75 rfl (lv_at hl_286 4 rfl) ?_
                  refine lv_goto (tgt := 80) hx hb dX8_charges_76 (by decide) ?_
                  refine gm_partst C hW_284 hS_281 3 (by decide) (vlit (by decide)) dX8_charges_80 (fun H_314 locs_315 hW_316 hS_317 => ?_)
                  obtain ⟨w_318, ew_318⟩ : ∃ Z9, Z9 = upd w_282 (3) mass := ⟨_, rfl⟩
                  have kn_319 : w_318 (0) = 0 := by rw [ew_318]; exact (pk_un (by omega)).trans kn_283
                  have hW_320 : Wd G (setRow (setRow (setRow X 15 (X.1 15)) 16 (X.1 16)) 20 w_318) H_314 := Wd.cast (by rw [ew_318]; exact st_out) hW_316
                  refine lv_iinc (v := 4) (lv' := [(4, .int 4), (0, .ref (ad G 723)), (1, .int (nI f_10)), (2, .int (nI f_22)), (3, .int mass)]) hx hb dX8_charges_81 hl_286 (k := 0) rfl (by decide) (by decide) rfl (fun ls_321 hl_322 => ?_)
                  refine lv_goto (tgt := 57) hx hb dX8_charges_84 (by decide) ?_
                  refine lv_iload hx hb dX8_charges_57 (lv_at hl_322 0 rfl) ?_
                  refine lv_iconst (v := 4) hx hb dX8_charges_59 (by decide) ?_
                  refine lv_icmp_ge (tgt := 87) hx hb dX8_charges_60 (by decide) (fun _ => ?_) (fun h9 => absurd h9 (by decide))
                  refine lv_aload_n hx hb dX8_charges_87 rfl (lv_at hl_322 1 rfl) ?_
                  refine gM_v C hW_320 (hwc hwX8) (mc qw_1481) dX8_charges_88 ?_
                  refine lv_iconst (v := 1) hx hb dX8_charges_91 (by decide) ?_
                  refine lv_iload_n hx hb dX8_charges_92 rfl (lv_at hl_322 3 rfl) ?_
                  refine lv_iadd hx hb dX8_charges_93 ?_
                  refine g_top (y := nI (1 + f_22)) (nI_add 1 f_22) ?_
                  refine lv_dup2_11 hx hb dX8_charges_94 rfl rfl ?_
                  refine gm_vld C hW_320 (1 + f_22) (nI_clamp (by omega)) (vp_in_nI (show 1 + f_22 < 128 by omega) (by decide)) dX8_charges_95 ?_
                  refine g_top (y := X.1 16 (1 + f_22)) (congrFun (rd_in (by decide) rd_out) _) ?_
                  refine lv_iload_n hx hb dX8_charges_96 rfl (lv_at hl_322 4 rfl) ?_
                  refine lv_iadd hx hb dX8_charges_97 ?_
                  refine gm_vst C hW_320 hS_317 (1 + f_22) (nI_clamp (by omega)) (vp_in_nI (show 1 + f_22 < 128 by omega) (by decide)) dX8_charges_98 (fun H_323 locs_324 hW_325 hS_326 => ?_)
                  obtain ⟨w_327, ew_327⟩ : ∃ Z9, Z9 = upd (X.1 16) (1 + f_22) ((X.1 16 (1 + f_22)) + mass) := ⟨_, rfl⟩
                  have hW_328 : Wd G (setRow (setRow (setRow X 15 (X.1 15)) 16 w_327) 20 w_318) H_323 := Wd.cast (by rw [ew_327]; exact (st_in (by decide) st_out)) hW_325
                  refine lv_aload_n hx hb dX8_charges_99 rfl (lv_at hl_322 1 rfl) ?_
                  refine lv_iload_n hx hb dX8_charges_100 rfl (lv_at hl_322 2 rfl) ?_
                  refine lv_bipush (v := 20) hx hb dX8_charges_101 (by decide) ?_
                  refine g_calli (va_runV (As := [.int (nI f_10), .int 20]) (rest := []) C.1 (cX8_feeds_ok l G (setRow (setRow (setRow X 15 (X.1 15)) 16 w_327) 20 w_318) f_10 20 (show f_10 < 3 by omega) (nz_feed (s := 0 + k0 + k0 + k0) (hm.1 f_10 (by omega)) (fun j hj => by rw [ew_327]; exact pk_un (by omega)) ⟨0, k0, k0, k0, (by subst ew_327; subst ew_318; subst ew_282; subst ew_208; subst ew_56; rfl), (by subst ew_327; subst ew_318; subst ew_282; subst ew_208; subst ew_56; exact hk03), (by subst ew_327; subst ew_318; subst ew_282; subst ew_208; subst ew_56; exact hk03), (by subst ew_327; subst ew_318; subst ew_282; subst ew_208; subst ew_56; exact hk03), rfl⟩ (by omega))) (cwV 2 C.1.2.2.2.2 (gV qw_1579 qw_1581 qw_33 qw_81 qw_1582) rfl rfl rfl (by decide +kernel) ⟨Nat.le_of_ble_eq_true rfl, Nat.le_of_ble_eq_true rfl⟩) (g_rModel C hW_328 hS_326 [.int (nI f_10), .int 20]) rfl rfl hl_322.1 rfl (lv_room (Nat.le_of_ble_eq_true rfl)) dX8_charges_103 ⟨Nat.zero_le _, Nat.zero_le _⟩) hS_326 (fun r_330 Y_331 H_332 locs_333 hW_334 hS_335 h_329 => ?_)
                  obtain ⟨h_336, h_329⟩ := h_329
                  replace h_336 : r_330 = (oM_feeds w_327 w_318 f_10 20).1 := h_336
                  subst h_336
                  replace h_329 : Y_331 = setRow (setRow (setRow (setRow X 15 (X.1 15)) 16 w_327) 20 w_318) 16 ((oM_feeds w_327 w_318 f_10 20).2) := h_329
                  obtain ⟨w_337, ew_337⟩ : ∃ Z9, Z9 = (oM_feeds w_327 w_318 f_10 20).2 := ⟨_, rfl⟩
                  have qqw_337 : Y_331 = setRow (setRow (setRow (setRow X 15 (X.1 15)) 16 w_327) 20 w_318) 16 w_337 := by rw [h_329, ew_337]
                  have hW_338 : Wd G (setRow (setRow (setRow X 15 (X.1 15)) 16 w_337) 20 w_318) H_332 := Wd.cast ((qqw_337).trans (congrArg (fun Z9 => Z9) (sr_in (by decide) sr_out))) hW_334
                  exact g_iret C hr hlk hW_338 hS_335 dX8_charges_106 (by subst ew_337; subst ew_327; subst ew_318; subst ew_282; subst ew_208; subst ew_56; exact ⟨(by first | rfl | (simp only [oM_charges, clf (show f_10 < 2 ^ 31 by omega), clf (show f_22 < 2 ^ 31 by omega), b_9, b_11, b_31, b_48, b_51, eq_true b_61, eq_true b_213, eq_true b_287, if_true, if_false, chP]; first | done | rfl)), (by first | rfl | (simp only [oM_charges, clf (show f_10 < 2 ^ 31 by omega), clf (show f_22 < 2 ^ 31 by omega), b_9, b_11, b_31, b_48, b_51, eq_true b_61, eq_true b_213, eq_true b_287, if_true, if_false, chP]; first | done | rfl))⟩)
          · have fb_51 : 0 = f_22 := (nI_eq (a := 0) (b := f_22) (by omega) (by omega)).mp b_51
            refine lv_iload_n hx hb dX8_charges_75 rfl (lv_at hl_50 4 rfl) ?_
            refine lv_goto (tgt := 80) hx hb dX8_charges_76 (by decide) ?_
            refine gm_partst C hW_45 hS_46 0 (by decide) (vlit (by decide)) dX8_charges_80 (fun H_339 locs_340 hW_341 hS_342 => ?_)
            obtain ⟨w_343, ew_343⟩ : ∃ Z9, Z9 = upd (X.1 20) (0) mass := ⟨_, rfl⟩
            have hW_344 : Wd G (setRow (setRow (setRow X 15 (X.1 15)) 16 (X.1 16)) 20 w_343) H_339 := Wd.cast (by rw [ew_343]; exact st_out) hW_341
            refine lv_iinc (v := 1) (lv' := [(4, .int 1), (0, .ref (ad G 723)), (1, .int (nI f_10)), (2, .int (nI f_22)), (3, .int mass)]) hx hb dX8_charges_81 hl_50 (k := 0) rfl (by decide) (by decide) rfl (fun ls_345 hl_346 => ?_)
            refine lv_goto (tgt := 57) hx hb dX8_charges_84 (by decide) ?_
            refine lv_iload hx hb dX8_charges_57 (lv_at hl_346 0 rfl) ?_
            refine lv_iconst (v := 4) hx hb dX8_charges_59 (by decide) ?_
            refine lv_icmp_ge (tgt := 87) hx hb dX8_charges_60 (by decide) (fun h9 => absurd h9 (by decide)) (fun _ => ?_)
            refine lv_aload_n hx hb dX8_charges_63 rfl (lv_at hl_346 1 rfl) ?_
            refine gM_part C hW_344 (hwc hwX8) (mc qw_1485) dX8_charges_64 ?_
            refine lv_iload hx hb dX8_charges_67 (lv_at hl_346 0 rfl) ?_
            refine lv_iload hx hb dX8_charges_69 (lv_at hl_346 0 rfl) ?_
            refine lv_iload_n hx hb dX8_charges_71 rfl (lv_at hl_346 3 rfl) ?_
            refine lv_icmp_ne (tgt := 79) hx hb dX8_charges_72 (by decide) (fun b_347 => ?_) (fun b_347 => ?_)
            · have fb_347 : ¬ 1 = f_22 := fun q9 => b_347 ((nI_eq (a := 1) (b := f_22) (by omega) (by omega)).mpr q9)
              refine lv_iconst (v := 0) hx hb dX8_charges_79 (by decide) ?_
              refine gm_partst C hW_344 hS_342 1 (by decide) (vlit (by decide)) dX8_charges_80 (fun H_348 locs_349 hW_350 hS_351 => ?_)
              obtain ⟨w_352, ew_352⟩ : ∃ Z9, Z9 = upd w_343 (1) 0 := ⟨_, rfl⟩
              have kn_353 : w_352 (1) = 0 := by rw [ew_352]; exact pk_us
              have hW_354 : Wd G (setRow (setRow (setRow X 15 (X.1 15)) 16 (X.1 16)) 20 w_352) H_348 := Wd.cast (by rw [ew_352]; exact st_out) hW_350
              refine lv_iinc (v := 2) (lv' := [(4, .int 2), (0, .ref (ad G 723)), (1, .int (nI f_10)), (2, .int (nI f_22)), (3, .int mass)]) hx hb dX8_charges_81 hl_346 (k := 0) rfl (by decide) (by decide) rfl (fun ls_355 hl_356 => ?_)
              refine lv_goto (tgt := 57) hx hb dX8_charges_84 (by decide) ?_
              refine lv_iload hx hb dX8_charges_57 (lv_at hl_356 0 rfl) ?_
              refine lv_iconst (v := 4) hx hb dX8_charges_59 (by decide) ?_
              refine lv_icmp_ge (tgt := 87) hx hb dX8_charges_60 (by decide) (fun h9 => absurd h9 (by decide)) (fun _ => ?_)
              refine lv_aload_n hx hb dX8_charges_63 rfl (lv_at hl_356 1 rfl) ?_
              refine gM_part C hW_354 (hwc hwX8) (mc qw_1485) dX8_charges_64 ?_
              refine lv_iload hx hb dX8_charges_67 (lv_at hl_356 0 rfl) ?_
              refine lv_iload hx hb dX8_charges_69 (lv_at hl_356 0 rfl) ?_
              refine lv_iload_n hx hb dX8_charges_71 rfl (lv_at hl_356 3 rfl) ?_
              refine lv_icmp_ne (tgt := 79) hx hb dX8_charges_72 (by decide) (fun b_357 => ?_) (fun b_357 => ?_)
              · have fb_357 : ¬ 2 = f_22 := fun q9 => b_357 ((nI_eq (a := 2) (b := f_22) (by omega) (by omega)).mpr q9)
                refine lv_iconst (v := 0) hx hb dX8_charges_79 (by decide) ?_
                refine gm_partst C hW_354 hS_351 2 (by decide) (vlit (by decide)) dX8_charges_80 (fun H_358 locs_359 hW_360 hS_361 => ?_)
                obtain ⟨w_362, ew_362⟩ : ∃ Z9, Z9 = upd w_352 (2) 0 := ⟨_, rfl⟩
                have kn_363 : w_362 (1) = 0 := by rw [ew_362]; exact (pk_un (by omega)).trans kn_353
                have kn_364 : w_362 (2) = 0 := by rw [ew_362]; exact pk_us
                have hW_365 : Wd G (setRow (setRow (setRow X 15 (X.1 15)) 16 (X.1 16)) 20 w_362) H_358 := Wd.cast (by rw [ew_362]; exact st_out) hW_360
                refine lv_iinc (v := 3) (lv' := [(4, .int 3), (0, .ref (ad G 723)), (1, .int (nI f_10)), (2, .int (nI f_22)), (3, .int mass)]) hx hb dX8_charges_81 hl_356 (k := 0) rfl (by decide) (by decide) rfl (fun ls_366 hl_367 => ?_)
                refine lv_goto (tgt := 57) hx hb dX8_charges_84 (by decide) ?_
                refine lv_iload hx hb dX8_charges_57 (lv_at hl_367 0 rfl) ?_
                refine lv_iconst (v := 4) hx hb dX8_charges_59 (by decide) ?_
                refine lv_icmp_ge (tgt := 87) hx hb dX8_charges_60 (by decide) (fun h9 => absurd h9 (by decide)) (fun _ => ?_)
                refine lv_aload_n hx hb dX8_charges_63 rfl (lv_at hl_367 1 rfl) ?_
                refine gM_part C hW_365 (hwc hwX8) (mc qw_1485) dX8_charges_64 ?_
                refine lv_iload hx hb dX8_charges_67 (lv_at hl_367 0 rfl) ?_
                refine lv_iload hx hb dX8_charges_69 (lv_at hl_367 0 rfl) ?_
                refine lv_iload_n hx hb dX8_charges_71 rfl (lv_at hl_367 3 rfl) ?_
                refine lv_icmp_ne (tgt := 79) hx hb dX8_charges_72 (by decide) (fun b_368 => ?_) (fun b_368 => ?_)
                · have fb_368 : ¬ 3 = f_22 := fun q9 => b_368 ((nI_eq (a := 3) (b := f_22) (by omega) (by omega)).mpr q9)
                  refine lv_iconst (v := 0) hx hb dX8_charges_79 (by decide) ?_
                  refine gm_partst C hW_365 hS_361 3 (by decide) (vlit (by decide)) dX8_charges_80 (fun H_369 locs_370 hW_371 hS_372 => ?_)
                  obtain ⟨w_373, ew_373⟩ : ∃ Z9, Z9 = upd w_362 (3) 0 := ⟨_, rfl⟩
                  have kn_374 : w_373 (1) = 0 := by rw [ew_373]; exact (pk_un (by omega)).trans kn_363
                  have kn_375 : w_373 (2) = 0 := by rw [ew_373]; exact (pk_un (by omega)).trans kn_364
                  have kn_376 : w_373 (3) = 0 := by rw [ew_373]; exact pk_us
                  have hW_377 : Wd G (setRow (setRow (setRow X 15 (X.1 15)) 16 (X.1 16)) 20 w_373) H_369 := Wd.cast (by rw [ew_373]; exact st_out) hW_371
                  refine lv_iinc (v := 4) (lv' := [(4, .int 4), (0, .ref (ad G 723)), (1, .int (nI f_10)), (2, .int (nI f_22)), (3, .int mass)]) hx hb dX8_charges_81 hl_367 (k := 0) rfl (by decide) (by decide) rfl (fun ls_378 hl_379 => ?_)
                  refine lv_goto (tgt := 57) hx hb dX8_charges_84 (by decide) ?_
                  refine lv_iload hx hb dX8_charges_57 (lv_at hl_379 0 rfl) ?_
                  refine lv_iconst (v := 4) hx hb dX8_charges_59 (by decide) ?_
                  refine lv_icmp_ge (tgt := 87) hx hb dX8_charges_60 (by decide) (fun _ => ?_) (fun h9 => absurd h9 (by decide))
                  refine lv_aload_n hx hb dX8_charges_87 rfl (lv_at hl_379 1 rfl) ?_
                  refine gM_v C hW_377 (hwc hwX8) (mc qw_1481) dX8_charges_88 ?_
                  refine lv_iconst (v := 1) hx hb dX8_charges_91 (by decide) ?_
                  refine lv_iload_n hx hb dX8_charges_92 rfl (lv_at hl_379 3 rfl) ?_
                  refine lv_iadd hx hb dX8_charges_93 ?_
                  refine g_top (y := nI (1 + f_22)) (nI_add 1 f_22) ?_
                  refine lv_dup2_11 hx hb dX8_charges_94 rfl rfl ?_
                  refine gm_vld C hW_377 (1 + f_22) (nI_clamp (by omega)) (vp_in_nI (show 1 + f_22 < 128 by omega) (by decide)) dX8_charges_95 ?_
                  refine g_top (y := X.1 16 (1 + f_22)) (congrFun (rd_in (by decide) rd_out) _) ?_
                  refine lv_iload_n hx hb dX8_charges_96 rfl (lv_at hl_379 4 rfl) ?_
                  refine lv_iadd hx hb dX8_charges_97 ?_
                  refine gm_vst C hW_377 hS_372 (1 + f_22) (nI_clamp (by omega)) (vp_in_nI (show 1 + f_22 < 128 by omega) (by decide)) dX8_charges_98 (fun H_380 locs_381 hW_382 hS_383 => ?_)
                  obtain ⟨w_384, ew_384⟩ : ∃ Z9, Z9 = upd (X.1 16) (1 + f_22) ((X.1 16 (1 + f_22)) + mass) := ⟨_, rfl⟩
                  have hW_385 : Wd G (setRow (setRow (setRow X 15 (X.1 15)) 16 w_384) 20 w_373) H_380 := Wd.cast (by rw [ew_384]; exact (st_in (by decide) st_out)) hW_382
                  refine lv_aload_n hx hb dX8_charges_99 rfl (lv_at hl_379 1 rfl) ?_
                  refine lv_iload_n hx hb dX8_charges_100 rfl (lv_at hl_379 2 rfl) ?_
                  refine lv_bipush (v := 20) hx hb dX8_charges_101 (by decide) ?_
                  refine g_calli (va_runV (As := [.int (nI f_10), .int 20]) (rest := []) C.1 (cX8_feeds_ok l G (setRow (setRow (setRow X 15 (X.1 15)) 16 w_384) 20 w_373) f_10 20 (show f_10 < 3 by omega) (nz_feed (s := k0 + 0 + 0 + 0) (hm.1 f_10 (by omega)) (fun j hj => by rw [ew_384]; exact pk_un (by omega)) ⟨k0, 0, 0, 0, (by subst ew_384; subst ew_373; subst ew_362; subst ew_352; subst ew_343; exact hk03), (by subst ew_384; subst ew_373; subst ew_362; subst ew_352; subst ew_343; rfl), (by subst ew_384; subst ew_373; subst ew_362; subst ew_352; subst ew_343; rfl), (by subst ew_384; subst ew_373; subst ew_362; subst ew_352; subst ew_343; rfl), rfl⟩ (by omega))) (cwV 2 C.1.2.2.2.2 (gV qw_1579 qw_1581 qw_33 qw_81 qw_1582) rfl rfl rfl (by decide +kernel) ⟨Nat.le_of_ble_eq_true rfl, Nat.le_of_ble_eq_true rfl⟩) (g_rModel C hW_385 hS_383 [.int (nI f_10), .int 20]) rfl rfl hl_379.1 rfl (lv_room (Nat.le_of_ble_eq_true rfl)) dX8_charges_103 ⟨Nat.zero_le _, Nat.zero_le _⟩) hS_383 (fun r_387 Y_388 H_389 locs_390 hW_391 hS_392 h_386 => ?_)
                  obtain ⟨h_393, h_386⟩ := h_386
                  replace h_393 : r_387 = (oM_feeds w_384 w_373 f_10 20).1 := h_393
                  subst h_393
                  replace h_386 : Y_388 = setRow (setRow (setRow (setRow X 15 (X.1 15)) 16 w_384) 20 w_373) 16 ((oM_feeds w_384 w_373 f_10 20).2) := h_386
                  obtain ⟨w_394, ew_394⟩ : ∃ Z9, Z9 = (oM_feeds w_384 w_373 f_10 20).2 := ⟨_, rfl⟩
                  have qqw_394 : Y_388 = setRow (setRow (setRow (setRow X 15 (X.1 15)) 16 w_384) 20 w_373) 16 w_394 := by rw [h_386, ew_394]
                  have hW_395 : Wd G (setRow (setRow (setRow X 15 (X.1 15)) 16 w_394) 20 w_373) H_389 := Wd.cast ((qqw_394).trans (congrArg (fun Z9 => Z9) (sr_in (by decide) sr_out))) hW_391
                  exact g_iret C hr hlk hW_395 hS_392 dX8_charges_106 (by subst ew_394; subst ew_384; subst ew_373; subst ew_362; subst ew_352; subst ew_343; exact ⟨(by first | rfl | (simp only [oM_charges, clf (show f_10 < 2 ^ 31 by omega), clf (show f_22 < 2 ^ 31 by omega), b_9, b_11, b_31, b_48, eq_true b_51, b_347, b_357, b_368, if_true, if_false, chP]; first | done | rfl)), (by first | rfl | (simp only [oM_charges, clf (show f_10 < 2 ^ 31 by omega), clf (show f_22 < 2 ^ 31 by omega), b_9, b_11, b_31, b_48, eq_true b_51, b_347, b_357, b_368, if_true, if_false, chP]; first | done | rfl))⟩)
                · have fb_368 : 3 = f_22 := (nI_eq (a := 3) (b := f_22) (by omega) (by omega)).mp b_368
                  refine lv_iload_n hx hb dX8_charges_75 rfl (lv_at hl_367 4 rfl) ?_
                  refine lv_goto (tgt := 80) hx hb dX8_charges_76 (by decide) ?_
                  refine gm_partst C hW_365 hS_361 3 (by decide) (vlit (by decide)) dX8_charges_80 (fun H_396 locs_397 hW_398 hS_399 => ?_)
                  obtain ⟨w_400, ew_400⟩ : ∃ Z9, Z9 = upd w_362 (3) mass := ⟨_, rfl⟩
                  have kn_401 : w_400 (1) = 0 := by rw [ew_400]; exact (pk_un (by omega)).trans kn_363
                  have kn_402 : w_400 (2) = 0 := by rw [ew_400]; exact (pk_un (by omega)).trans kn_364
                  have hW_403 : Wd G (setRow (setRow (setRow X 15 (X.1 15)) 16 (X.1 16)) 20 w_400) H_396 := Wd.cast (by rw [ew_400]; exact st_out) hW_398
                  refine lv_iinc (v := 4) (lv' := [(4, .int 4), (0, .ref (ad G 723)), (1, .int (nI f_10)), (2, .int (nI f_22)), (3, .int mass)]) hx hb dX8_charges_81 hl_367 (k := 0) rfl (by decide) (by decide) rfl (fun ls_404 hl_405 => ?_)
                  refine lv_goto (tgt := 57) hx hb dX8_charges_84 (by decide) ?_
                  refine lv_iload hx hb dX8_charges_57 (lv_at hl_405 0 rfl) ?_
                  refine lv_iconst (v := 4) hx hb dX8_charges_59 (by decide) ?_
                  refine lv_icmp_ge (tgt := 87) hx hb dX8_charges_60 (by decide) (fun _ => ?_) (fun h9 => absurd h9 (by decide))
                  refine lv_aload_n hx hb dX8_charges_87 rfl (lv_at hl_405 1 rfl) ?_
                  refine gM_v C hW_403 (hwc hwX8) (mc qw_1481) dX8_charges_88 ?_
                  refine lv_iconst (v := 1) hx hb dX8_charges_91 (by decide) ?_
                  refine lv_iload_n hx hb dX8_charges_92 rfl (lv_at hl_405 3 rfl) ?_
                  refine lv_iadd hx hb dX8_charges_93 ?_
                  refine g_top (y := nI (1 + f_22)) (nI_add 1 f_22) ?_
                  refine lv_dup2_11 hx hb dX8_charges_94 rfl rfl ?_
                  refine gm_vld C hW_403 (1 + f_22) (nI_clamp (by omega)) (vp_in_nI (show 1 + f_22 < 128 by omega) (by decide)) dX8_charges_95 ?_
                  refine g_top (y := X.1 16 (1 + f_22)) (congrFun (rd_in (by decide) rd_out) _) ?_
                  refine lv_iload_n hx hb dX8_charges_96 rfl (lv_at hl_405 4 rfl) ?_
                  refine lv_iadd hx hb dX8_charges_97 ?_
                  refine gm_vst C hW_403 hS_399 (1 + f_22) (nI_clamp (by omega)) (vp_in_nI (show 1 + f_22 < 128 by omega) (by decide)) dX8_charges_98 (fun H_406 locs_407 hW_408 hS_409 => ?_)
                  obtain ⟨w_410, ew_410⟩ : ∃ Z9, Z9 = upd (X.1 16) (1 + f_22) ((X.1 16 (1 + f_22)) + mass) := ⟨_, rfl⟩
                  have hW_411 : Wd G (setRow (setRow (setRow X 15 (X.1 15)) 16 w_410) 20 w_400) H_406 := Wd.cast (by rw [ew_410]; exact (st_in (by decide) st_out)) hW_408
                  refine lv_aload_n hx hb dX8_charges_99 rfl (lv_at hl_405 1 rfl) ?_
                  refine lv_iload_n hx hb dX8_charges_100 rfl (lv_at hl_405 2 rfl) ?_
                  refine lv_bipush (v := 20) hx hb dX8_charges_101 (by decide) ?_
                  refine g_calli (va_runV (As := [.int (nI f_10), .int 20]) (rest := []) C.1 (cX8_feeds_ok l G (setRow (setRow (setRow X 15 (X.1 15)) 16 w_410) 20 w_400) f_10 20 (show f_10 < 3 by omega) (nz_feed (s := k0 + 0 + 0 + k0) (hm.1 f_10 (by omega)) (fun j hj => by rw [ew_410]; exact pk_un (by omega)) ⟨k0, 0, 0, k0, (by subst ew_410; subst ew_400; subst ew_362; subst ew_352; subst ew_343; exact hk03), (by subst ew_410; subst ew_400; subst ew_362; subst ew_352; subst ew_343; rfl), (by subst ew_410; subst ew_400; subst ew_362; subst ew_352; subst ew_343; rfl), (by subst ew_410; subst ew_400; subst ew_362; subst ew_352; subst ew_343; exact hk03), rfl⟩ (by omega))) (cwV 2 C.1.2.2.2.2 (gV qw_1579 qw_1581 qw_33 qw_81 qw_1582) rfl rfl rfl (by decide +kernel) ⟨Nat.le_of_ble_eq_true rfl, Nat.le_of_ble_eq_true rfl⟩) (g_rModel C hW_411 hS_409 [.int (nI f_10), .int 20]) rfl rfl hl_405.1 rfl (lv_room (Nat.le_of_ble_eq_true rfl)) dX8_charges_103 ⟨Nat.zero_le _, Nat.zero_le _⟩) hS_409 (fun r_413 Y_414 H_415 locs_416 hW_417 hS_418 h_412 => ?_)
                  obtain ⟨h_419, h_412⟩ := h_412
                  replace h_419 : r_413 = (oM_feeds w_410 w_400 f_10 20).1 := h_419
                  subst h_419
                  replace h_412 : Y_414 = setRow (setRow (setRow (setRow X 15 (X.1 15)) 16 w_410) 20 w_400) 16 ((oM_feeds w_410 w_400 f_10 20).2) := h_412
                  obtain ⟨w_420, ew_420⟩ : ∃ Z9, Z9 = (oM_feeds w_410 w_400 f_10 20).2 := ⟨_, rfl⟩
                  have qqw_420 : Y_414 = setRow (setRow (setRow (setRow X 15 (X.1 15)) 16 w_410) 20 w_400) 16 w_420 := by rw [h_412, ew_420]
                  have hW_421 : Wd G (setRow (setRow (setRow X 15 (X.1 15)) 16 w_420) 20 w_400) H_415 := Wd.cast ((qqw_420).trans (congrArg (fun Z9 => Z9) (sr_in (by decide) sr_out))) hW_417
                  exact g_iret C hr hlk hW_421 hS_418 dX8_charges_106 (by subst ew_420; subst ew_410; subst ew_400; subst ew_362; subst ew_352; subst ew_343; exact ⟨(by first | rfl | (simp only [oM_charges, clf (show f_10 < 2 ^ 31 by omega), clf (show f_22 < 2 ^ 31 by omega), b_9, b_11, b_31, b_48, eq_true b_51, b_347, b_357, eq_true b_368, if_true, if_false, chP]; first | done | rfl)), (by first | rfl | (simp only [oM_charges, clf (show f_10 < 2 ^ 31 by omega), clf (show f_22 < 2 ^ 31 by omega), b_9, b_11, b_31, b_48, eq_true b_51, b_347, b_357, eq_true b_368, if_true, if_false, chP]; first | done | rfl))⟩)
              · have fb_357 : 2 = f_22 := (nI_eq (a := 2) (b := f_22) (by omega) (by omega)).mp b_357
                refine lv_iload_n hx hb dX8_charges_75 rfl (lv_at hl_356 4 rfl) ?_
                refine lv_goto (tgt := 80) hx hb dX8_charges_76 (by decide) ?_
                refine gm_partst C hW_354 hS_351 2 (by decide) (vlit (by decide)) dX8_charges_80 (fun H_422 locs_423 hW_424 hS_425 => ?_)
                obtain ⟨w_426, ew_426⟩ : ∃ Z9, Z9 = upd w_352 (2) mass := ⟨_, rfl⟩
                have kn_427 : w_426 (1) = 0 := by rw [ew_426]; exact (pk_un (by omega)).trans kn_353
                have hW_428 : Wd G (setRow (setRow (setRow X 15 (X.1 15)) 16 (X.1 16)) 20 w_426) H_422 := Wd.cast (by rw [ew_426]; exact st_out) hW_424
                refine lv_iinc (v := 3) (lv' := [(4, .int 3), (0, .ref (ad G 723)), (1, .int (nI f_10)), (2, .int (nI f_22)), (3, .int mass)]) hx hb dX8_charges_81 hl_356 (k := 0) rfl (by decide) (by decide) rfl (fun ls_429 hl_430 => ?_)
                refine lv_goto (tgt := 57) hx hb dX8_charges_84 (by decide) ?_
                refine lv_iload hx hb dX8_charges_57 (lv_at hl_430 0 rfl) ?_
                refine lv_iconst (v := 4) hx hb dX8_charges_59 (by decide) ?_
                refine lv_icmp_ge (tgt := 87) hx hb dX8_charges_60 (by decide) (fun h9 => absurd h9 (by decide)) (fun _ => ?_)
                refine lv_aload_n hx hb dX8_charges_63 rfl (lv_at hl_430 1 rfl) ?_
                refine gM_part C hW_428 (hwc hwX8) (mc qw_1485) dX8_charges_64 ?_
                refine lv_iload hx hb dX8_charges_67 (lv_at hl_430 0 rfl) ?_
                refine lv_iload hx hb dX8_charges_69 (lv_at hl_430 0 rfl) ?_
                refine lv_iload_n hx hb dX8_charges_71 rfl (lv_at hl_430 3 rfl) ?_
                refine lv_icmp_ne (tgt := 79) hx hb dX8_charges_72 (by decide) (fun b_431 => ?_) (fun b_431 => ?_)
                · have fb_431 : ¬ 3 = f_22 := fun q9 => b_431 ((nI_eq (a := 3) (b := f_22) (by omega) (by omega)).mpr q9)
                  refine lv_iconst (v := 0) hx hb dX8_charges_79 (by decide) ?_
                  refine gm_partst C hW_428 hS_425 3 (by decide) (vlit (by decide)) dX8_charges_80 (fun H_432 locs_433 hW_434 hS_435 => ?_)
                  obtain ⟨w_436, ew_436⟩ : ∃ Z9, Z9 = upd w_426 (3) 0 := ⟨_, rfl⟩
                  have kn_437 : w_436 (1) = 0 := by rw [ew_436]; exact (pk_un (by omega)).trans kn_427
                  have kn_438 : w_436 (3) = 0 := by rw [ew_436]; exact pk_us
                  have hW_439 : Wd G (setRow (setRow (setRow X 15 (X.1 15)) 16 (X.1 16)) 20 w_436) H_432 := Wd.cast (by rw [ew_436]; exact st_out) hW_434
                  refine lv_iinc (v := 4) (lv' := [(4, .int 4), (0, .ref (ad G 723)), (1, .int (nI f_10)), (2, .int (nI f_22)), (3, .int mass)]) hx hb dX8_charges_81 hl_430 (k := 0) rfl (by decide) (by decide) rfl (fun ls_440 hl_441 => ?_)
                  refine lv_goto (tgt := 57) hx hb dX8_charges_84 (by decide) ?_
                  refine lv_iload hx hb dX8_charges_57 (lv_at hl_441 0 rfl) ?_
                  refine lv_iconst (v := 4) hx hb dX8_charges_59 (by decide) ?_
                  refine lv_icmp_ge (tgt := 87) hx hb dX8_charges_60 (by decide) (fun _ => ?_) (fun h9 => absurd h9 (by decide))
                  refine lv_aload_n hx hb dX8_charges_87 rfl (lv_at hl_441 1 rfl) ?_
                  refine gM_v C hW_439 (hwc hwX8) (mc qw_1481) dX8_charges_88 ?_
                  refine lv_iconst (v := 1) hx hb dX8_charges_91 (by decide) ?_
                  refine lv_iload_n hx hb dX8_charges_92 rfl (lv_at hl_441 3 rfl) ?_
                  refine lv_iadd hx hb dX8_charges_93 ?_
                  refine g_top (y := nI (1 + f_22)) (nI_add 1 f_22) ?_
                  refine lv_dup2_11 hx hb dX8_charges_94 rfl rfl ?_
                  refine gm_vld C hW_439 (1 + f_22) (nI_clamp (by omega)) (vp_in_nI (show 1 + f_22 < 128 by omega) (by decide)) dX8_charges_95 ?_
                  refine g_top (y := X.1 16 (1 + f_22)) (congrFun (rd_in (by decide) rd_out) _) ?_
                  refine lv_iload_n hx hb dX8_charges_96 rfl (lv_at hl_441 4 rfl) ?_
                  refine lv_iadd hx hb dX8_charges_97 ?_
                  refine gm_vst C hW_439 hS_435 (1 + f_22) (nI_clamp (by omega)) (vp_in_nI (show 1 + f_22 < 128 by omega) (by decide)) dX8_charges_98 (fun H_442 locs_443 hW_444 hS_445 => ?_)
                  obtain ⟨w_446, ew_446⟩ : ∃ Z9, Z9 = upd (X.1 16) (1 + f_22) ((X.1 16 (1 + f_22)) + mass) := ⟨_, rfl⟩
                  have hW_447 : Wd G (setRow (setRow (setRow X 15 (X.1 15)) 16 w_446) 20 w_436) H_442 := Wd.cast (by rw [ew_446]; exact (st_in (by decide) st_out)) hW_444
                  refine lv_aload_n hx hb dX8_charges_99 rfl (lv_at hl_441 1 rfl) ?_
                  refine lv_iload_n hx hb dX8_charges_100 rfl (lv_at hl_441 2 rfl) ?_
                  refine lv_bipush (v := 20) hx hb dX8_charges_101 (by decide) ?_
                  refine g_calli (va_runV (As := [.int (nI f_10), .int 20]) (rest := []) C.1 (cX8_feeds_ok l G (setRow (setRow (setRow X 15 (X.1 15)) 16 w_446) 20 w_436) f_10 20 (show f_10 < 3 by omega) (nz_feed (s := k0 + 0 + k0 + 0) (hm.1 f_10 (by omega)) (fun j hj => by rw [ew_446]; exact pk_un (by omega)) ⟨k0, 0, k0, 0, (by subst ew_446; subst ew_436; subst ew_426; subst ew_352; subst ew_343; exact hk03), (by subst ew_446; subst ew_436; subst ew_426; subst ew_352; subst ew_343; rfl), (by subst ew_446; subst ew_436; subst ew_426; subst ew_352; subst ew_343; exact hk03), (by subst ew_446; subst ew_436; subst ew_426; subst ew_352; subst ew_343; rfl), rfl⟩ (by omega))) (cwV 2 C.1.2.2.2.2 (gV qw_1579 qw_1581 qw_33 qw_81 qw_1582) rfl rfl rfl (by decide +kernel) ⟨Nat.le_of_ble_eq_true rfl, Nat.le_of_ble_eq_true rfl⟩) (g_rModel C hW_447 hS_445 [.int (nI f_10), .int 20]) rfl rfl hl_441.1 rfl (lv_room (Nat.le_of_ble_eq_true rfl)) dX8_charges_103 ⟨Nat.zero_le _, Nat.zero_le _⟩) hS_445 (fun r_449 Y_450 H_451 locs_452 hW_453 hS_454 h_448 => ?_)
                  obtain ⟨h_455, h_448⟩ := h_448
                  replace h_455 : r_449 = (oM_feeds w_446 w_436 f_10 20).1 := h_455
                  subst h_455
                  replace h_448 : Y_450 = setRow (setRow (setRow (setRow X 15 (X.1 15)) 16 w_446) 20 w_436) 16 ((oM_feeds w_446 w_436 f_10 20).2) := h_448
                  obtain ⟨w_456, ew_456⟩ : ∃ Z9, Z9 = (oM_feeds w_446 w_436 f_10 20).2 := ⟨_, rfl⟩
                  have qqw_456 : Y_450 = setRow (setRow (setRow (setRow X 15 (X.1 15)) 16 w_446) 20 w_436) 16 w_456 := by rw [h_448, ew_456]
                  have hW_457 : Wd G (setRow (setRow (setRow X 15 (X.1 15)) 16 w_456) 20 w_436) H_451 := Wd.cast ((qqw_456).trans (congrArg (fun Z9 => Z9) (sr_in (by decide) sr_out))) hW_453
                  exact g_iret C hr hlk hW_457 hS_454 dX8_charges_106 (by subst ew_456; subst ew_446; subst ew_436; subst ew_426; subst ew_352; subst ew_343; exact ⟨(by first | rfl | (simp only [oM_charges, clf (show f_10 < 2 ^ 31 by omega), clf (show f_22 < 2 ^ 31 by omega), b_9, b_11, b_31, b_48, eq_true b_51, b_347, eq_true b_357, b_431, if_true, if_false, chP]; first | done | rfl)), (by first | rfl | (simp only [oM_charges, clf (show f_10 < 2 ^ 31 by omega), clf (show f_22 < 2 ^ 31 by omega), b_9, b_11, b_31, b_48, eq_true b_51, b_347, eq_true b_357, b_431, if_true, if_false, chP]; first | done | rfl))⟩)
                · have fb_431 : 3 = f_22 := (nI_eq (a := 3) (b := f_22) (by omega) (by omega)).mp b_431
                  refine lv_iload_n hx hb dX8_charges_75 rfl (lv_at hl_430 4 rfl) ?_
                  refine lv_goto (tgt := 80) hx hb dX8_charges_76 (by decide) ?_
                  refine gm_partst C hW_428 hS_425 3 (by decide) (vlit (by decide)) dX8_charges_80 (fun H_458 locs_459 hW_460 hS_461 => ?_)
                  obtain ⟨w_462, ew_462⟩ : ∃ Z9, Z9 = upd w_426 (3) mass := ⟨_, rfl⟩
                  have kn_463 : w_462 (1) = 0 := by rw [ew_462]; exact (pk_un (by omega)).trans kn_427
                  have hW_464 : Wd G (setRow (setRow (setRow X 15 (X.1 15)) 16 (X.1 16)) 20 w_462) H_458 := Wd.cast (by rw [ew_462]; exact st_out) hW_460
                  refine lv_iinc (v := 4) (lv' := [(4, .int 4), (0, .ref (ad G 723)), (1, .int (nI f_10)), (2, .int (nI f_22)), (3, .int mass)]) hx hb dX8_charges_81 hl_430 (k := 0) rfl (by decide) (by decide) rfl (fun ls_465 hl_466 => ?_)
                  refine lv_goto (tgt := 57) hx hb dX8_charges_84 (by decide) ?_
                  refine lv_iload hx hb dX8_charges_57 (lv_at hl_466 0 rfl) ?_
                  refine lv_iconst (v := 4) hx hb dX8_charges_59 (by decide) ?_
                  refine lv_icmp_ge (tgt := 87) hx hb dX8_charges_60 (by decide) (fun _ => ?_) (fun h9 => absurd h9 (by decide))
                  refine lv_aload_n hx hb dX8_charges_87 rfl (lv_at hl_466 1 rfl) ?_
                  refine gM_v C hW_464 (hwc hwX8) (mc qw_1481) dX8_charges_88 ?_
                  refine lv_iconst (v := 1) hx hb dX8_charges_91 (by decide) ?_
                  refine lv_iload_n hx hb dX8_charges_92 rfl (lv_at hl_466 3 rfl) ?_
                  refine lv_iadd hx hb dX8_charges_93 ?_
                  refine g_top (y := nI (1 + f_22)) (nI_add 1 f_22) ?_
                  refine lv_dup2_11 hx hb dX8_charges_94 rfl rfl ?_
                  refine gm_vld C hW_464 (1 + f_22) (nI_clamp (by omega)) (vp_in_nI (show 1 + f_22 < 128 by omega) (by decide)) dX8_charges_95 ?_
                  refine g_top (y := X.1 16 (1 + f_22)) (congrFun (rd_in (by decide) rd_out) _) ?_
                  refine lv_iload_n hx hb dX8_charges_96 rfl (lv_at hl_466 4 rfl) ?_
                  refine lv_iadd hx hb dX8_charges_97 ?_
                  refine gm_vst C hW_464 hS_461 (1 + f_22) (nI_clamp (by omega)) (vp_in_nI (show 1 + f_22 < 128 by omega) (by decide)) dX8_charges_98 (fun H_467 locs_468 hW_469 hS_470 => ?_)
                  obtain ⟨w_471, ew_471⟩ : ∃ Z9, Z9 = upd (X.1 16) (1 + f_22) ((X.1 16 (1 + f_22)) + mass) := ⟨_, rfl⟩
                  have hW_472 : Wd G (setRow (setRow (setRow X 15 (X.1 15)) 16 w_471) 20 w_462) H_467 := Wd.cast (by rw [ew_471]; exact (st_in (by decide) st_out)) hW_469
                  refine lv_aload_n hx hb dX8_charges_99 rfl (lv_at hl_466 1 rfl) ?_
                  refine lv_iload_n hx hb dX8_charges_100 rfl (lv_at hl_466 2 rfl) ?_
                  refine lv_bipush (v := 20) hx hb dX8_charges_101 (by decide) ?_
                  refine g_calli (va_runV (As := [.int (nI f_10), .int 20]) (rest := []) C.1 (cX8_feeds_ok l G (setRow (setRow (setRow X 15 (X.1 15)) 16 w_471) 20 w_462) f_10 20 (show f_10 < 3 by omega) (nz_feed (s := k0 + 0 + k0 + k0) (hm.1 f_10 (by omega)) (fun j hj => by rw [ew_471]; exact pk_un (by omega)) ⟨k0, 0, k0, k0, (by subst ew_471; subst ew_462; subst ew_426; subst ew_352; subst ew_343; exact hk03), (by subst ew_471; subst ew_462; subst ew_426; subst ew_352; subst ew_343; rfl), (by subst ew_471; subst ew_462; subst ew_426; subst ew_352; subst ew_343; exact hk03), (by subst ew_471; subst ew_462; subst ew_426; subst ew_352; subst ew_343; exact hk03), rfl⟩ (by omega))) (cwV 2 C.1.2.2.2.2 (gV qw_1579 qw_1581 qw_33 qw_81 qw_1582) rfl rfl rfl (by decide +kernel) ⟨Nat.le_of_ble_eq_true rfl, Nat.le_of_ble_eq_true rfl⟩) (g_rModel C hW_472 hS_470 [.int (nI f_10), .int 20]) rfl rfl hl_466.1 rfl (lv_room (Nat.le_of_ble_eq_true rfl)) dX8_charges_103 ⟨Nat.zero_le _, Nat.zero_le _⟩) hS_470 (fun r_474 Y_475 H_476 locs_477 hW_478 hS_479 h_473 => ?_)
                  obtain ⟨h_480, h_473⟩ := h_473
                  replace h_480 : r_474 = (oM_feeds w_471 w_462 f_10 20).1 := h_480
                  subst h_480
                  replace h_473 : Y_475 = setRow (setRow (setRow (setRow X 15 (X.1 15)) 16 w_471) 20 w_462) 16 ((oM_feeds w_471 w_462 f_10 20).2) := h_473
                  obtain ⟨w_481, ew_481⟩ : ∃ Z9, Z9 = (oM_feeds w_471 w_462 f_10 20).2 := ⟨_, rfl⟩
                  have qqw_481 : Y_475 = setRow (setRow (setRow (setRow X 15 (X.1 15)) 16 w_471) 20 w_462) 16 w_481 := by rw [h_473, ew_481]
                  have hW_482 : Wd G (setRow (setRow (setRow X 15 (X.1 15)) 16 w_481) 20 w_462) H_476 := Wd.cast ((qqw_481).trans (congrArg (fun Z9 => Z9) (sr_in (by decide) sr_out))) hW_478
                  exact g_iret C hr hlk hW_482 hS_479 dX8_charges_106 (by subst ew_481; subst ew_471; subst ew_462; subst ew_426; subst ew_352; subst ew_343; exact ⟨(by first | rfl | (simp only [oM_charges, clf (show f_10 < 2 ^ 31 by omega), clf (show f_22 < 2 ^ 31 by omega), b_9, b_11, b_31, b_48, eq_true b_51, b_347, eq_true b_357, eq_true b_431, if_true, if_false, chP]; first | done | rfl)), (by first | rfl | (simp only [oM_charges, clf (show f_10 < 2 ^ 31 by omega), clf (show f_22 < 2 ^ 31 by omega), b_9, b_11, b_31, b_48, eq_true b_51, b_347, eq_true b_357, eq_true b_431, if_true, if_false, chP]; first | done | rfl))⟩)
            · have fb_347 : 1 = f_22 := (nI_eq (a := 1) (b := f_22) (by omega) (by omega)).mp b_347
              refine lv_iload_n hx hb dX8_charges_75 rfl (lv_at hl_346 4 rfl) ?_
              refine lv_goto (tgt := 80) hx hb dX8_charges_76 (by decide) ?_
              refine gm_partst C hW_344 hS_342 1 (by decide) (vlit (by decide)) dX8_charges_80 (fun H_483 locs_484 hW_485 hS_486 => ?_)
              obtain ⟨w_487, ew_487⟩ : ∃ Z9, Z9 = upd w_343 (1) mass := ⟨_, rfl⟩
              have hW_488 : Wd G (setRow (setRow (setRow X 15 (X.1 15)) 16 (X.1 16)) 20 w_487) H_483 := Wd.cast (by rw [ew_487]; exact st_out) hW_485
              refine lv_iinc (v := 2) (lv' := [(4, .int 2), (0, .ref (ad G 723)), (1, .int (nI f_10)), (2, .int (nI f_22)), (3, .int mass)]) hx hb dX8_charges_81 hl_346 (k := 0) rfl (by decide) (by decide) rfl (fun ls_489 hl_490 => ?_)
              refine lv_goto (tgt := 57) hx hb dX8_charges_84 (by decide) ?_
              refine lv_iload hx hb dX8_charges_57 (lv_at hl_490 0 rfl) ?_
              refine lv_iconst (v := 4) hx hb dX8_charges_59 (by decide) ?_
              refine lv_icmp_ge (tgt := 87) hx hb dX8_charges_60 (by decide) (fun h9 => absurd h9 (by decide)) (fun _ => ?_)
              refine lv_aload_n hx hb dX8_charges_63 rfl (lv_at hl_490 1 rfl) ?_
              refine gM_part C hW_488 (hwc hwX8) (mc qw_1485) dX8_charges_64 ?_
              refine lv_iload hx hb dX8_charges_67 (lv_at hl_490 0 rfl) ?_
              refine lv_iload hx hb dX8_charges_69 (lv_at hl_490 0 rfl) ?_
              refine lv_iload_n hx hb dX8_charges_71 rfl (lv_at hl_490 3 rfl) ?_
              refine lv_icmp_ne (tgt := 79) hx hb dX8_charges_72 (by decide) (fun b_491 => ?_) (fun b_491 => ?_)
              · have fb_491 : ¬ 2 = f_22 := fun q9 => b_491 ((nI_eq (a := 2) (b := f_22) (by omega) (by omega)).mpr q9)
                refine lv_iconst (v := 0) hx hb dX8_charges_79 (by decide) ?_
                refine gm_partst C hW_488 hS_486 2 (by decide) (vlit (by decide)) dX8_charges_80 (fun H_492 locs_493 hW_494 hS_495 => ?_)
                obtain ⟨w_496, ew_496⟩ : ∃ Z9, Z9 = upd w_487 (2) 0 := ⟨_, rfl⟩
                have kn_497 : w_496 (2) = 0 := by rw [ew_496]; exact pk_us
                have hW_498 : Wd G (setRow (setRow (setRow X 15 (X.1 15)) 16 (X.1 16)) 20 w_496) H_492 := Wd.cast (by rw [ew_496]; exact st_out) hW_494
                refine lv_iinc (v := 3) (lv' := [(4, .int 3), (0, .ref (ad G 723)), (1, .int (nI f_10)), (2, .int (nI f_22)), (3, .int mass)]) hx hb dX8_charges_81 hl_490 (k := 0) rfl (by decide) (by decide) rfl (fun ls_499 hl_500 => ?_)
                refine lv_goto (tgt := 57) hx hb dX8_charges_84 (by decide) ?_
                refine lv_iload hx hb dX8_charges_57 (lv_at hl_500 0 rfl) ?_
                refine lv_iconst (v := 4) hx hb dX8_charges_59 (by decide) ?_
                refine lv_icmp_ge (tgt := 87) hx hb dX8_charges_60 (by decide) (fun h9 => absurd h9 (by decide)) (fun _ => ?_)
                refine lv_aload_n hx hb dX8_charges_63 rfl (lv_at hl_500 1 rfl) ?_
                refine gM_part C hW_498 (hwc hwX8) (mc qw_1485) dX8_charges_64 ?_
                refine lv_iload hx hb dX8_charges_67 (lv_at hl_500 0 rfl) ?_
                refine lv_iload hx hb dX8_charges_69 (lv_at hl_500 0 rfl) ?_
                refine lv_iload_n hx hb dX8_charges_71 rfl (lv_at hl_500 3 rfl) ?_
                refine lv_icmp_ne (tgt := 79) hx hb dX8_charges_72 (by decide) (fun b_501 => ?_) (fun b_501 => ?_)
                · have fb_501 : ¬ 3 = f_22 := fun q9 => b_501 ((nI_eq (a := 3) (b := f_22) (by omega) (by omega)).mpr q9)
                  refine lv_iconst (v := 0) hx hb dX8_charges_79 (by decide) ?_
                  refine gm_partst C hW_498 hS_495 3 (by decide) (vlit (by decide)) dX8_charges_80 (fun H_502 locs_503 hW_504 hS_505 => ?_)
                  obtain ⟨w_506, ew_506⟩ : ∃ Z9, Z9 = upd w_496 (3) 0 := ⟨_, rfl⟩
                  have kn_507 : w_506 (2) = 0 := by rw [ew_506]; exact (pk_un (by omega)).trans kn_497
                  have kn_508 : w_506 (3) = 0 := by rw [ew_506]; exact pk_us
                  have hW_509 : Wd G (setRow (setRow (setRow X 15 (X.1 15)) 16 (X.1 16)) 20 w_506) H_502 := Wd.cast (by rw [ew_506]; exact st_out) hW_504
                  refine lv_iinc (v := 4) (lv' := [(4, .int 4), (0, .ref (ad G 723)), (1, .int (nI f_10)), (2, .int (nI f_22)), (3, .int mass)]) hx hb dX8_charges_81 hl_500 (k := 0) rfl (by decide) (by decide) rfl (fun ls_510 hl_511 => ?_)
                  refine lv_goto (tgt := 57) hx hb dX8_charges_84 (by decide) ?_
                  refine lv_iload hx hb dX8_charges_57 (lv_at hl_511 0 rfl) ?_
                  refine lv_iconst (v := 4) hx hb dX8_charges_59 (by decide) ?_
                  refine lv_icmp_ge (tgt := 87) hx hb dX8_charges_60 (by decide) (fun _ => ?_) (fun h9 => absurd h9 (by decide))
                  refine lv_aload_n hx hb dX8_charges_87 rfl (lv_at hl_511 1 rfl) ?_
                  refine gM_v C hW_509 (hwc hwX8) (mc qw_1481) dX8_charges_88 ?_
                  refine lv_iconst (v := 1) hx hb dX8_charges_91 (by decide) ?_
                  refine lv_iload_n hx hb dX8_charges_92 rfl (lv_at hl_511 3 rfl) ?_
                  refine lv_iadd hx hb dX8_charges_93 ?_
                  refine g_top (y := nI (1 + f_22)) (nI_add 1 f_22) ?_
                  refine lv_dup2_11 hx hb dX8_charges_94 rfl rfl ?_
                  refine gm_vld C hW_509 (1 + f_22) (nI_clamp (by omega)) (vp_in_nI (show 1 + f_22 < 128 by omega) (by decide)) dX8_charges_95 ?_
                  refine g_top (y := X.1 16 (1 + f_22)) (congrFun (rd_in (by decide) rd_out) _) ?_
                  refine lv_iload_n hx hb dX8_charges_96 rfl (lv_at hl_511 4 rfl) ?_
                  refine lv_iadd hx hb dX8_charges_97 ?_
                  refine gm_vst C hW_509 hS_505 (1 + f_22) (nI_clamp (by omega)) (vp_in_nI (show 1 + f_22 < 128 by omega) (by decide)) dX8_charges_98 (fun H_512 locs_513 hW_514 hS_515 => ?_)
                  obtain ⟨w_516, ew_516⟩ : ∃ Z9, Z9 = upd (X.1 16) (1 + f_22) ((X.1 16 (1 + f_22)) + mass) := ⟨_, rfl⟩
                  have hW_517 : Wd G (setRow (setRow (setRow X 15 (X.1 15)) 16 w_516) 20 w_506) H_512 := Wd.cast (by rw [ew_516]; exact (st_in (by decide) st_out)) hW_514
                  refine lv_aload_n hx hb dX8_charges_99 rfl (lv_at hl_511 1 rfl) ?_
                  refine lv_iload_n hx hb dX8_charges_100 rfl (lv_at hl_511 2 rfl) ?_
                  refine lv_bipush (v := 20) hx hb dX8_charges_101 (by decide) ?_
                  refine g_calli (va_runV (As := [.int (nI f_10), .int 20]) (rest := []) C.1 (cX8_feeds_ok l G (setRow (setRow (setRow X 15 (X.1 15)) 16 w_516) 20 w_506) f_10 20 (show f_10 < 3 by omega) (nz_feed (s := k0 + k0 + 0 + 0) (hm.1 f_10 (by omega)) (fun j hj => by rw [ew_516]; exact pk_un (by omega)) ⟨k0, k0, 0, 0, (by subst ew_516; subst ew_506; subst ew_496; subst ew_487; subst ew_343; exact hk03), (by subst ew_516; subst ew_506; subst ew_496; subst ew_487; subst ew_343; exact hk03), (by subst ew_516; subst ew_506; subst ew_496; subst ew_487; subst ew_343; rfl), (by subst ew_516; subst ew_506; subst ew_496; subst ew_487; subst ew_343; rfl), rfl⟩ (by omega))) (cwV 2 C.1.2.2.2.2 (gV qw_1579 qw_1581 qw_33 qw_81 qw_1582) rfl rfl rfl (by decide +kernel) ⟨Nat.le_of_ble_eq_true rfl, Nat.le_of_ble_eq_true rfl⟩) (g_rModel C hW_517 hS_515 [.int (nI f_10), .int 20]) rfl rfl hl_511.1 rfl (lv_room (Nat.le_of_ble_eq_true rfl)) dX8_charges_103 ⟨Nat.zero_le _, Nat.zero_le _⟩) hS_515 (fun r_519 Y_520 H_521 locs_522 hW_523 hS_524 h_518 => ?_)
                  obtain ⟨h_525, h_518⟩ := h_518
                  replace h_525 : r_519 = (oM_feeds w_516 w_506 f_10 20).1 := h_525
                  subst h_525
                  replace h_518 : Y_520 = setRow (setRow (setRow (setRow X 15 (X.1 15)) 16 w_516) 20 w_506) 16 ((oM_feeds w_516 w_506 f_10 20).2) := h_518
                  obtain ⟨w_526, ew_526⟩ : ∃ Z9, Z9 = (oM_feeds w_516 w_506 f_10 20).2 := ⟨_, rfl⟩
                  have qqw_526 : Y_520 = setRow (setRow (setRow (setRow X 15 (X.1 15)) 16 w_516) 20 w_506) 16 w_526 := by rw [h_518, ew_526]
                  have hW_527 : Wd G (setRow (setRow (setRow X 15 (X.1 15)) 16 w_526) 20 w_506) H_521 := Wd.cast ((qqw_526).trans (congrArg (fun Z9 => Z9) (sr_in (by decide) sr_out))) hW_523
                  exact g_iret C hr hlk hW_527 hS_524 dX8_charges_106 (by subst ew_526; subst ew_516; subst ew_506; subst ew_496; subst ew_487; subst ew_343; exact ⟨(by first | rfl | (simp only [oM_charges, clf (show f_10 < 2 ^ 31 by omega), clf (show f_22 < 2 ^ 31 by omega), b_9, b_11, b_31, b_48, eq_true b_51, eq_true b_347, b_491, b_501, if_true, if_false, chP]; first | done | rfl)), (by first | rfl | (simp only [oM_charges, clf (show f_10 < 2 ^ 31 by omega), clf (show f_22 < 2 ^ 31 by omega), b_9, b_11, b_31, b_48, eq_true b_51, eq_true b_347, b_491, b_501, if_true, if_false, chP]; first | done | rfl))⟩)
                · have fb_501 : 3 = f_22 := (nI_eq (a := 3) (b := f_22) (by omega) (by omega)).mp b_501
                  refine lv_iload_n hx hb dX8_charges_75 rfl (lv_at hl_500 4 rfl) ?_
                  refine lv_goto (tgt := 80) hx hb dX8_charges_76 (by decide) ?_
                  refine gm_partst C hW_498 hS_495 3 (by decide) (vlit (by decide)) dX8_charges_80 (fun H_528 locs_529 hW_530 hS_531 => ?_)
                  obtain ⟨w_532, ew_532⟩ : ∃ Z9, Z9 = upd w_496 (3) mass := ⟨_, rfl⟩
                  have kn_533 : w_532 (2) = 0 := by rw [ew_532]; exact (pk_un (by omega)).trans kn_497
                  have hW_534 : Wd G (setRow (setRow (setRow X 15 (X.1 15)) 16 (X.1 16)) 20 w_532) H_528 := Wd.cast (by rw [ew_532]; exact st_out) hW_530
                  refine lv_iinc (v := 4) (lv' := [(4, .int 4), (0, .ref (ad G 723)), (1, .int (nI f_10)), (2, .int (nI f_22)), (3, .int mass)]) hx hb dX8_charges_81 hl_500 (k := 0) rfl (by decide) (by decide) rfl (fun ls_535 hl_536 => ?_)
                  refine lv_goto (tgt := 57) hx hb dX8_charges_84 (by decide) ?_
                  refine lv_iload hx hb dX8_charges_57 (lv_at hl_536 0 rfl) ?_
                  refine lv_iconst (v := 4) hx hb dX8_charges_59 (by decide) ?_
                  refine lv_icmp_ge (tgt := 87) hx hb dX8_charges_60 (by decide) (fun _ => ?_) (fun h9 => absurd h9 (by decide))
                  refine lv_aload_n hx hb dX8_charges_87 rfl (lv_at hl_536 1 rfl) ?_
                  refine gM_v C hW_534 (hwc hwX8) (mc qw_1481) dX8_charges_88 ?_
                  refine lv_iconst (v := 1) hx hb dX8_charges_91 (by decide) ?_
                  refine lv_iload_n hx hb dX8_charges_92 rfl (lv_at hl_536 3 rfl) ?_
                  refine lv_iadd hx hb dX8_charges_93 ?_
                  refine g_top (y := nI (1 + f_22)) (nI_add 1 f_22) ?_
                  refine lv_dup2_11 hx hb dX8_charges_94 rfl rfl ?_
                  refine gm_vld C hW_534 (1 + f_22) (nI_clamp (by omega)) (vp_in_nI (show 1 + f_22 < 128 by omega) (by decide)) dX8_charges_95 ?_
                  refine g_top (y := X.1 16 (1 + f_22)) (congrFun (rd_in (by decide) rd_out) _) ?_
                  refine lv_iload_n hx hb dX8_charges_96 rfl (lv_at hl_536 4 rfl) ?_
                  refine lv_iadd hx hb dX8_charges_97 ?_
                  refine gm_vst C hW_534 hS_531 (1 + f_22) (nI_clamp (by omega)) (vp_in_nI (show 1 + f_22 < 128 by omega) (by decide)) dX8_charges_98 (fun H_537 locs_538 hW_539 hS_540 => ?_)
                  obtain ⟨w_541, ew_541⟩ : ∃ Z9, Z9 = upd (X.1 16) (1 + f_22) ((X.1 16 (1 + f_22)) + mass) := ⟨_, rfl⟩
                  have hW_542 : Wd G (setRow (setRow (setRow X 15 (X.1 15)) 16 w_541) 20 w_532) H_537 := Wd.cast (by rw [ew_541]; exact (st_in (by decide) st_out)) hW_539
                  refine lv_aload_n hx hb dX8_charges_99 rfl (lv_at hl_536 1 rfl) ?_
                  refine lv_iload_n hx hb dX8_charges_100 rfl (lv_at hl_536 2 rfl) ?_
                  refine lv_bipush (v := 20) hx hb dX8_charges_101 (by decide) ?_
                  refine g_calli (va_runV (As := [.int (nI f_10), .int 20]) (rest := []) C.1 (cX8_feeds_ok l G (setRow (setRow (setRow X 15 (X.1 15)) 16 w_541) 20 w_532) f_10 20 (show f_10 < 3 by omega) (nz_feed (s := k0 + k0 + 0 + k0) (hm.1 f_10 (by omega)) (fun j hj => by rw [ew_541]; exact pk_un (by omega)) ⟨k0, k0, 0, k0, (by subst ew_541; subst ew_532; subst ew_496; subst ew_487; subst ew_343; exact hk03), (by subst ew_541; subst ew_532; subst ew_496; subst ew_487; subst ew_343; exact hk03), (by subst ew_541; subst ew_532; subst ew_496; subst ew_487; subst ew_343; rfl), (by subst ew_541; subst ew_532; subst ew_496; subst ew_487; subst ew_343; exact hk03), rfl⟩ (by omega))) (cwV 2 C.1.2.2.2.2 (gV qw_1579 qw_1581 qw_33 qw_81 qw_1582) rfl rfl rfl (by decide +kernel) ⟨Nat.le_of_ble_eq_true rfl, Nat.le_of_ble_eq_true rfl⟩) (g_rModel C hW_542 hS_540 [.int (nI f_10), .int 20]) rfl rfl hl_536.1 rfl (lv_room (Nat.le_of_ble_eq_true rfl)) dX8_charges_103 ⟨Nat.zero_le _, Nat.zero_le _⟩) hS_540 (fun r_544 Y_545 H_546 locs_547 hW_548 hS_549 h_543 => ?_)
                  obtain ⟨h_550, h_543⟩ := h_543
                  replace h_550 : r_544 = (oM_feeds w_541 w_532 f_10 20).1 := h_550
                  subst h_550
                  replace h_543 : Y_545 = setRow (setRow (setRow (setRow X 15 (X.1 15)) 16 w_541) 20 w_532) 16 ((oM_feeds w_541 w_532 f_10 20).2) := h_543
                  obtain ⟨w_551, ew_551⟩ : ∃ Z9, Z9 = (oM_feeds w_541 w_532 f_10 20).2 := ⟨_, rfl⟩
                  have qqw_551 : Y_545 = setRow (setRow (setRow (setRow X 15 (X.1 15)) 16 w_541) 20 w_532) 16 w_551 := by rw [h_543, ew_551]
                  have hW_552 : Wd G (setRow (setRow (setRow X 15 (X.1 15)) 16 w_551) 20 w_532) H_546 := Wd.cast ((qqw_551).trans (congrArg (fun Z9 => Z9) (sr_in (by decide) sr_out))) hW_548
                  exact g_iret C hr hlk hW_552 hS_549 dX8_charges_106 (by subst ew_551; subst ew_541; subst ew_532; subst ew_496; subst ew_487; subst ew_343; exact ⟨(by first | rfl | (simp only [oM_charges, clf (show f_10 < 2 ^ 31 by omega), clf (show f_22 < 2 ^ 31 by omega), b_9, b_11, b_31, b_48, eq_true b_51, eq_true b_347, b_491, eq_true b_501, if_true, if_false, chP]; first | done | rfl)), (by first | rfl | (simp only [oM_charges, clf (show f_10 < 2 ^ 31 by omega), clf (show f_22 < 2 ^ 31 by omega), b_9, b_11, b_31, b_48, eq_true b_51, eq_true b_347, b_491, eq_true b_501, if_true, if_false, chP]; first | done | rfl))⟩)
              · have fb_491 : 2 = f_22 := (nI_eq (a := 2) (b := f_22) (by omega) (by omega)).mp b_491
                refine lv_iload_n hx hb dX8_charges_75 rfl (lv_at hl_490 4 rfl) ?_
                refine lv_goto (tgt := 80) hx hb dX8_charges_76 (by decide) ?_
                refine gm_partst C hW_488 hS_486 2 (by decide) (vlit (by decide)) dX8_charges_80 (fun H_553 locs_554 hW_555 hS_556 => ?_)
                obtain ⟨w_557, ew_557⟩ : ∃ Z9, Z9 = upd w_487 (2) mass := ⟨_, rfl⟩
                have hW_558 : Wd G (setRow (setRow (setRow X 15 (X.1 15)) 16 (X.1 16)) 20 w_557) H_553 := Wd.cast (by rw [ew_557]; exact st_out) hW_555
                refine lv_iinc (v := 3) (lv' := [(4, .int 3), (0, .ref (ad G 723)), (1, .int (nI f_10)), (2, .int (nI f_22)), (3, .int mass)]) hx hb dX8_charges_81 hl_490 (k := 0) rfl (by decide) (by decide) rfl (fun ls_559 hl_560 => ?_)
                refine lv_goto (tgt := 57) hx hb dX8_charges_84 (by decide) ?_
                refine lv_iload hx hb dX8_charges_57 (lv_at hl_560 0 rfl) ?_
                refine lv_iconst (v := 4) hx hb dX8_charges_59 (by decide) ?_
                refine lv_icmp_ge (tgt := 87) hx hb dX8_charges_60 (by decide) (fun h9 => absurd h9 (by decide)) (fun _ => ?_)
                refine lv_aload_n hx hb dX8_charges_63 rfl (lv_at hl_560 1 rfl) ?_
                refine gM_part C hW_558 (hwc hwX8) (mc qw_1485) dX8_charges_64 ?_
                refine lv_iload hx hb dX8_charges_67 (lv_at hl_560 0 rfl) ?_
                refine lv_iload hx hb dX8_charges_69 (lv_at hl_560 0 rfl) ?_
                refine lv_iload_n hx hb dX8_charges_71 rfl (lv_at hl_560 3 rfl) ?_
                refine lv_icmp_ne (tgt := 79) hx hb dX8_charges_72 (by decide) (fun b_561 => ?_) (fun b_561 => ?_)
                · have fb_561 : ¬ 3 = f_22 := fun q9 => b_561 ((nI_eq (a := 3) (b := f_22) (by omega) (by omega)).mpr q9)
                  refine lv_iconst (v := 0) hx hb dX8_charges_79 (by decide) ?_
                  refine gm_partst C hW_558 hS_556 3 (by decide) (vlit (by decide)) dX8_charges_80 (fun H_562 locs_563 hW_564 hS_565 => ?_)
                  obtain ⟨w_566, ew_566⟩ : ∃ Z9, Z9 = upd w_557 (3) 0 := ⟨_, rfl⟩
                  have kn_567 : w_566 (3) = 0 := by rw [ew_566]; exact pk_us
                  have hW_568 : Wd G (setRow (setRow (setRow X 15 (X.1 15)) 16 (X.1 16)) 20 w_566) H_562 := Wd.cast (by rw [ew_566]; exact st_out) hW_564
                  refine lv_iinc (v := 4) (lv' := [(4, .int 4), (0, .ref (ad G 723)), (1, .int (nI f_10)), (2, .int (nI f_22)), (3, .int mass)]) hx hb dX8_charges_81 hl_560 (k := 0) rfl (by decide) (by decide) rfl (fun ls_569 hl_570 => ?_)
                  refine lv_goto (tgt := 57) hx hb dX8_charges_84 (by decide) ?_
                  refine lv_iload hx hb dX8_charges_57 (lv_at hl_570 0 rfl) ?_
                  refine lv_iconst (v := 4) hx hb dX8_charges_59 (by decide) ?_
                  refine lv_icmp_ge (tgt := 87) hx hb dX8_charges_60 (by decide) (fun _ => ?_) (fun h9 => absurd h9 (by decide))
                  refine lv_aload_n hx hb dX8_charges_87 rfl (lv_at hl_570 1 rfl) ?_
                  refine gM_v C hW_568 (hwc hwX8) (mc qw_1481) dX8_charges_88 ?_
                  refine lv_iconst (v := 1) hx hb dX8_charges_91 (by decide) ?_
                  refine lv_iload_n hx hb dX8_charges_92 rfl (lv_at hl_570 3 rfl) ?_
                  refine lv_iadd hx hb dX8_charges_93 ?_
                  refine g_top (y := nI (1 + f_22)) (nI_add 1 f_22) ?_
                  refine lv_dup2_11 hx hb dX8_charges_94 rfl rfl ?_
                  refine gm_vld C hW_568 (1 + f_22) (nI_clamp (by omega)) (vp_in_nI (show 1 + f_22 < 128 by omega) (by decide)) dX8_charges_95 ?_
                  refine g_top (y := X.1 16 (1 + f_22)) (congrFun (rd_in (by decide) rd_out) _) ?_
                  refine lv_iload_n hx hb dX8_charges_96 rfl (lv_at hl_570 4 rfl) ?_
                  refine lv_iadd hx hb dX8_charges_97 ?_
                  refine gm_vst C hW_568 hS_565 (1 + f_22) (nI_clamp (by omega)) (vp_in_nI (show 1 + f_22 < 128 by omega) (by decide)) dX8_charges_98 (fun H_571 locs_572 hW_573 hS_574 => ?_)
                  obtain ⟨w_575, ew_575⟩ : ∃ Z9, Z9 = upd (X.1 16) (1 + f_22) ((X.1 16 (1 + f_22)) + mass) := ⟨_, rfl⟩
                  have hW_576 : Wd G (setRow (setRow (setRow X 15 (X.1 15)) 16 w_575) 20 w_566) H_571 := Wd.cast (by rw [ew_575]; exact (st_in (by decide) st_out)) hW_573
                  refine lv_aload_n hx hb dX8_charges_99 rfl (lv_at hl_570 1 rfl) ?_
                  refine lv_iload_n hx hb dX8_charges_100 rfl (lv_at hl_570 2 rfl) ?_
                  refine lv_bipush (v := 20) hx hb dX8_charges_101 (by decide) ?_
                  refine g_calli (va_runV (As := [.int (nI f_10), .int 20]) (rest := []) C.1 (cX8_feeds_ok l G (setRow (setRow (setRow X 15 (X.1 15)) 16 w_575) 20 w_566) f_10 20 (show f_10 < 3 by omega) (nz_feed (s := k0 + k0 + k0 + 0) (hm.1 f_10 (by omega)) (fun j hj => by rw [ew_575]; exact pk_un (by omega)) ⟨k0, k0, k0, 0, (by subst ew_575; subst ew_566; subst ew_557; subst ew_487; subst ew_343; exact hk03), (by subst ew_575; subst ew_566; subst ew_557; subst ew_487; subst ew_343; exact hk03), (by subst ew_575; subst ew_566; subst ew_557; subst ew_487; subst ew_343; exact hk03), (by subst ew_575; subst ew_566; subst ew_557; subst ew_487; subst ew_343; rfl), rfl⟩ (by omega))) (cwV 2 C.1.2.2.2.2 (gV qw_1579 qw_1581 qw_33 qw_81 qw_1582) rfl rfl rfl (by decide +kernel) ⟨Nat.le_of_ble_eq_true rfl, Nat.le_of_ble_eq_true rfl⟩) (g_rModel C hW_576 hS_574 [.int (nI f_10), .int 20]) rfl rfl hl_570.1 rfl (lv_room (Nat.le_of_ble_eq_true rfl)) dX8_charges_103 ⟨Nat.zero_le _, Nat.zero_le _⟩) hS_574 (fun r_578 Y_579 H_580 locs_581 hW_582 hS_583 h_577 => ?_)
                  obtain ⟨h_584, h_577⟩ := h_577
                  replace h_584 : r_578 = (oM_feeds w_575 w_566 f_10 20).1 := h_584
                  subst h_584
                  replace h_577 : Y_579 = setRow (setRow (setRow (setRow X 15 (X.1 15)) 16 w_575) 20 w_566) 16 ((oM_feeds w_575 w_566 f_10 20).2) := h_577
                  obtain ⟨w_585, ew_585⟩ : ∃ Z9, Z9 = (oM_feeds w_575 w_566 f_10 20).2 := ⟨_, rfl⟩
                  have qqw_585 : Y_579 = setRow (setRow (setRow (setRow X 15 (X.1 15)) 16 w_575) 20 w_566) 16 w_585 := by rw [h_577, ew_585]
                  have hW_586 : Wd G (setRow (setRow (setRow X 15 (X.1 15)) 16 w_585) 20 w_566) H_580 := Wd.cast ((qqw_585).trans (congrArg (fun Z9 => Z9) (sr_in (by decide) sr_out))) hW_582
                  exact g_iret C hr hlk hW_586 hS_583 dX8_charges_106 (by subst ew_585; subst ew_575; subst ew_566; subst ew_557; subst ew_487; subst ew_343; exact ⟨(by first | rfl | (simp only [oM_charges, clf (show f_10 < 2 ^ 31 by omega), clf (show f_22 < 2 ^ 31 by omega), b_9, b_11, b_31, b_48, eq_true b_51, eq_true b_347, eq_true b_491, b_561, if_true, if_false, chP]; first | done | rfl)), (by first | rfl | (simp only [oM_charges, clf (show f_10 < 2 ^ 31 by omega), clf (show f_22 < 2 ^ 31 by omega), b_9, b_11, b_31, b_48, eq_true b_51, eq_true b_347, eq_true b_491, b_561, if_true, if_false, chP]; first | done | rfl))⟩)
                · have fb_561 : 3 = f_22 := (nI_eq (a := 3) (b := f_22) (by omega) (by omega)).mp b_561
                  refine lv_iload_n hx hb dX8_charges_75 rfl (lv_at hl_560 4 rfl) ?_
                  refine lv_goto (tgt := 80) hx hb dX8_charges_76 (by decide) ?_
                  refine gm_partst C hW_558 hS_556 3 (by decide) (vlit (by decide)) dX8_charges_80 (fun H_587 locs_588 hW_589 hS_590 => ?_)
                  obtain ⟨w_591, ew_591⟩ : ∃ Z9, Z9 = upd w_557 (3) mass := ⟨_, rfl⟩
                  have hW_592 : Wd G (setRow (setRow (setRow X 15 (X.1 15)) 16 (X.1 16)) 20 w_591) H_587 := Wd.cast (by rw [ew_591]; exact st_out) hW_589
                  refine lv_iinc (v := 4) (lv' := [(4, .int 4), (0, .ref (ad G 723)), (1, .int (nI f_10)), (2, .int (nI f_22)), (3, .int mass)]) hx hb dX8_charges_81 hl_560 (k := 0) rfl (by decide) (by decide) rfl (fun ls_593 hl_594 => ?_)
                  refine lv_goto (tgt := 57) hx hb dX8_charges_84 (by decide) ?_
                  refine lv_iload hx hb dX8_charges_57 (lv_at hl_594 0 rfl) ?_
                  refine lv_iconst (v := 4) hx hb dX8_charges_59 (by decide) ?_
                  refine lv_icmp_ge (tgt := 87) hx hb dX8_charges_60 (by decide) (fun _ => ?_) (fun h9 => absurd h9 (by decide))
                  refine lv_aload_n hx hb dX8_charges_87 rfl (lv_at hl_594 1 rfl) ?_
                  refine gM_v C hW_592 (hwc hwX8) (mc qw_1481) dX8_charges_88 ?_
                  refine lv_iconst (v := 1) hx hb dX8_charges_91 (by decide) ?_
                  refine lv_iload_n hx hb dX8_charges_92 rfl (lv_at hl_594 3 rfl) ?_
                  refine lv_iadd hx hb dX8_charges_93 ?_
                  refine g_top (y := nI (1 + f_22)) (nI_add 1 f_22) ?_
                  refine lv_dup2_11 hx hb dX8_charges_94 rfl rfl ?_
                  refine gm_vld C hW_592 (1 + f_22) (nI_clamp (by omega)) (vp_in_nI (show 1 + f_22 < 128 by omega) (by decide)) dX8_charges_95 ?_
                  refine g_top (y := X.1 16 (1 + f_22)) (congrFun (rd_in (by decide) rd_out) _) ?_
                  refine lv_iload_n hx hb dX8_charges_96 rfl (lv_at hl_594 4 rfl) ?_
                  refine lv_iadd hx hb dX8_charges_97 ?_
                  refine gm_vst C hW_592 hS_590 (1 + f_22) (nI_clamp (by omega)) (vp_in_nI (show 1 + f_22 < 128 by omega) (by decide)) dX8_charges_98 (fun H_595 locs_596 hW_597 hS_598 => ?_)
                  obtain ⟨w_599, ew_599⟩ : ∃ Z9, Z9 = upd (X.1 16) (1 + f_22) ((X.1 16 (1 + f_22)) + mass) := ⟨_, rfl⟩
                  have hW_600 : Wd G (setRow (setRow (setRow X 15 (X.1 15)) 16 w_599) 20 w_591) H_595 := Wd.cast (by rw [ew_599]; exact (st_in (by decide) st_out)) hW_597
                  refine lv_aload_n hx hb dX8_charges_99 rfl (lv_at hl_594 1 rfl) ?_
                  refine lv_iload_n hx hb dX8_charges_100 rfl (lv_at hl_594 2 rfl) ?_
                  refine lv_bipush (v := 20) hx hb dX8_charges_101 (by decide) ?_
                  refine g_calli (va_runV (As := [.int (nI f_10), .int 20]) (rest := []) C.1 (cX8_feeds_ok l G (setRow (setRow (setRow X 15 (X.1 15)) 16 w_599) 20 w_591) f_10 20 (show f_10 < 3 by omega) (nz_feed (s := k0 + k0 + k0 + k0) (hm.1 f_10 (by omega)) (fun j hj => by rw [ew_599]; exact pk_un (by omega)) ⟨k0, k0, k0, k0, (by subst ew_599; subst ew_591; subst ew_557; subst ew_487; subst ew_343; exact hk03), (by subst ew_599; subst ew_591; subst ew_557; subst ew_487; subst ew_343; exact hk03), (by subst ew_599; subst ew_591; subst ew_557; subst ew_487; subst ew_343; exact hk03), (by subst ew_599; subst ew_591; subst ew_557; subst ew_487; subst ew_343; exact hk03), rfl⟩ (by omega))) (cwV 2 C.1.2.2.2.2 (gV qw_1579 qw_1581 qw_33 qw_81 qw_1582) rfl rfl rfl (by decide +kernel) ⟨Nat.le_of_ble_eq_true rfl, Nat.le_of_ble_eq_true rfl⟩) (g_rModel C hW_600 hS_598 [.int (nI f_10), .int 20]) rfl rfl hl_594.1 rfl (lv_room (Nat.le_of_ble_eq_true rfl)) dX8_charges_103 ⟨Nat.zero_le _, Nat.zero_le _⟩) hS_598 (fun r_602 Y_603 H_604 locs_605 hW_606 hS_607 h_601 => ?_)
                  obtain ⟨h_608, h_601⟩ := h_601
                  replace h_608 : r_602 = (oM_feeds w_599 w_591 f_10 20).1 := h_608
                  subst h_608
                  replace h_601 : Y_603 = setRow (setRow (setRow (setRow X 15 (X.1 15)) 16 w_599) 20 w_591) 16 ((oM_feeds w_599 w_591 f_10 20).2) := h_601
                  obtain ⟨w_609, ew_609⟩ : ∃ Z9, Z9 = (oM_feeds w_599 w_591 f_10 20).2 := ⟨_, rfl⟩
                  have qqw_609 : Y_603 = setRow (setRow (setRow (setRow X 15 (X.1 15)) 16 w_599) 20 w_591) 16 w_609 := by rw [h_601, ew_609]
                  have hW_610 : Wd G (setRow (setRow (setRow X 15 (X.1 15)) 16 w_609) 20 w_591) H_604 := Wd.cast ((qqw_609).trans (congrArg (fun Z9 => Z9) (sr_in (by decide) sr_out))) hW_606
                  exact g_iret C hr hlk hW_610 hS_607 dX8_charges_106 (by subst ew_609; subst ew_599; subst ew_591; subst ew_557; subst ew_487; subst ew_343; exact ⟨(by first | rfl | (simp only [oM_charges, clf (show f_10 < 2 ^ 31 by omega), clf (show f_22 < 2 ^ 31 by omega), b_9, b_11, b_31, b_48, eq_true b_51, eq_true b_347, eq_true b_491, eq_true b_561, if_true, if_false, chP]; first | done | rfl)), (by first | rfl | (simp only [oM_charges, clf (show f_10 < 2 ^ 31 by omega), clf (show f_22 < 2 ^ 31 by omega), b_9, b_11, b_31, b_48, eq_true b_51, eq_true b_347, eq_true b_491, eq_true b_561, if_true, if_false, chP]; first | done | rfl))⟩)
        · refine lv_aload_n hx hb dX8_charges_48 rfl (lv_at hl 0 rfl) ?_
          refine lv_iconst (v := 3) hx hb dX8_charges_49 (by decide) ?_
          refine g_calli (va_runV (As := [.int 3]) (rest := []) C.1 (cX8_fail_ok l G (setRow (setRow (setRow X 15 (X.1 15)) 16 (X.1 16)) 20 (X.1 20)) 3) (cwV 1 C.1.2.2.2.2 (gV qw_1571 qw_1573 qw_31 qw_81 qw_1574) rfl rfl rfl (by decide +kernel) ⟨Nat.le_of_ble_eq_true rfl, Nat.le_of_ble_eq_true rfl⟩) (g_rModel C hW_45 hS_46 [.int 3]) rfl rfl hl.1 rfl (lv_room (Nat.le_of_ble_eq_true rfl)) dX8_charges_50 ⟨Nat.zero_le _, Nat.zero_le _⟩) hS_46 (fun r_612 Y_613 H_614 locs_615 hW_616 hS_617 h_611 => ?_)
          obtain ⟨h_618, h_611⟩ := h_611
          replace h_618 : r_612 = (oM_fail (X.1 15) 3).1 := h_618
          subst h_618
          replace h_611 : Y_613 = setRow (setRow (setRow (setRow X 15 (X.1 15)) 16 (X.1 16)) 20 (X.1 20)) 15 ((oM_fail (X.1 15) 3).2) := h_611
          obtain ⟨w_619, ew_619⟩ : ∃ Z9, Z9 = (oM_fail (X.1 15) 3).2 := ⟨_, rfl⟩
          have qqw_619 : Y_613 = setRow (setRow (setRow (setRow X 15 (X.1 15)) 16 (X.1 16)) 20 (X.1 20)) 15 w_619 := by rw [h_611, ew_619]
          have hW_620 : Wd G (setRow (setRow (setRow X 15 w_619) 16 (X.1 16)) 20 (X.1 20)) H_614 := Wd.cast ((qqw_619).trans (congrArg (fun Z9 => Z9) (sr_in (by decide) (sr_in (by decide) sr_out)))) hW_616
          exact g_iret C hr hlk hW_620 hS_617 dX8_charges_53 (by subst ew_619; exact ⟨(by first | rfl | (simp only [oM_charges, clf (show f_10 < 2 ^ 31 by omega), clf (show f_22 < 2 ^ 31 by omega), b_9, b_11, b_31, b_48, if_true, if_false, chP]; first | done | rfl)), (by first | rfl | (simp only [oM_charges, clf (show f_10 < 2 ^ 31 by omega), clf (show f_22 < 2 ^ 31 by omega), b_9, b_11, b_31, b_48, if_true, if_false, chP]; first | done | rfl))⟩)
      · refine lv_aload_n hx hb dX8_charges_27 rfl (lv_at hl 0 rfl) ?_
        refine lv_iconst (v := 2) hx hb dX8_charges_28 (by decide) ?_
        refine g_calli (va_runV (As := [.int 2]) (rest := []) C.1 (cX8_fail_ok l G (setRow (setRow (setRow X 15 (X.1 15)) 16 (X.1 16)) 20 (X.1 20)) 2) (cwV 1 C.1.2.2.2.2 (gV qw_1571 qw_1573 qw_31 qw_81 qw_1574) rfl rfl rfl (by decide +kernel) ⟨Nat.le_of_ble_eq_true rfl, Nat.le_of_ble_eq_true rfl⟩) (g_rModel C hW_28 hS_29 [.int 2]) rfl rfl hl.1 rfl (lv_room (Nat.le_of_ble_eq_true rfl)) dX8_charges_29 ⟨Nat.zero_le _, Nat.zero_le _⟩) hS_29 (fun r_622 Y_623 H_624 locs_625 hW_626 hS_627 h_621 => ?_)
        obtain ⟨h_628, h_621⟩ := h_621
        replace h_628 : r_622 = (oM_fail (X.1 15) 2).1 := h_628
        subst h_628
        replace h_621 : Y_623 = setRow (setRow (setRow (setRow X 15 (X.1 15)) 16 (X.1 16)) 20 (X.1 20)) 15 ((oM_fail (X.1 15) 2).2) := h_621
        obtain ⟨w_629, ew_629⟩ : ∃ Z9, Z9 = (oM_fail (X.1 15) 2).2 := ⟨_, rfl⟩
        have qqw_629 : Y_623 = setRow (setRow (setRow (setRow X 15 (X.1 15)) 16 (X.1 16)) 20 (X.1 20)) 15 w_629 := by rw [h_621, ew_629]
        have hW_630 : Wd G (setRow (setRow (setRow X 15 w_629) 16 (X.1 16)) 20 (X.1 20)) H_624 := Wd.cast ((qqw_629).trans (congrArg (fun Z9 => Z9) (sr_in (by decide) (sr_in (by decide) sr_out)))) hW_626
        exact g_iret C hr hlk hW_630 hS_627 dX8_charges_32 (by subst ew_629; exact ⟨(by first | rfl | (simp only [oM_charges, clf (show f_10 < 2 ^ 31 by omega), clf (show f_22 < 2 ^ 31 by omega), b_9, b_11, eq_true b_31, if_true, if_false, chP]; first | done | rfl)), (by first | rfl | (simp only [oM_charges, clf (show f_10 < 2 ^ 31 by omega), clf (show f_22 < 2 ^ 31 by omega), b_9, b_11, eq_true b_31, if_true, if_false, chP]; first | done | rfl))⟩)
  · refine lv_aload_n hx hb dX8_charges_7 rfl (lv_at hl 0 rfl) ?_
    refine lv_iconst (v := 1) hx hb dX8_charges_8 (by decide) ?_
    refine g_calli (va_runV (As := [.int 1]) (rest := []) C.1 (cX8_fail_ok l G (setRow (setRow (setRow X 15 (X.1 15)) 16 (X.1 16)) 20 (X.1 20)) 1) (cwV 1 C.1.2.2.2.2 (gV qw_1571 qw_1573 qw_31 qw_81 qw_1574) rfl rfl rfl (by decide +kernel) ⟨Nat.le_of_ble_eq_true rfl, Nat.le_of_ble_eq_true rfl⟩) (g_rModel C hW_6 hS_7 [.int 1]) rfl rfl hl.1 rfl (lv_room (Nat.le_of_ble_eq_true rfl)) dX8_charges_9 ⟨Nat.zero_le _, Nat.zero_le _⟩) hS_7 (fun r_632 Y_633 H_634 locs_635 hW_636 hS_637 h_631 => ?_)
    obtain ⟨h_638, h_631⟩ := h_631
    replace h_638 : r_632 = (oM_fail (X.1 15) 1).1 := h_638
    subst h_638
    replace h_631 : Y_633 = setRow (setRow (setRow (setRow X 15 (X.1 15)) 16 (X.1 16)) 20 (X.1 20)) 15 ((oM_fail (X.1 15) 1).2) := h_631
    obtain ⟨w_639, ew_639⟩ : ∃ Z9, Z9 = (oM_fail (X.1 15) 1).2 := ⟨_, rfl⟩
    have qqw_639 : Y_633 = setRow (setRow (setRow (setRow X 15 (X.1 15)) 16 (X.1 16)) 20 (X.1 20)) 15 w_639 := by rw [h_631, ew_639]
    have hW_640 : Wd G (setRow (setRow (setRow X 15 w_639) 16 (X.1 16)) 20 (X.1 20)) H_634 := Wd.cast ((qqw_639).trans (congrArg (fun Z9 => Z9) (sr_in (by decide) (sr_in (by decide) sr_out)))) hW_636
    exact g_iret C hr hlk hW_640 hS_637 dX8_charges_12 (by subst ew_639; exact ⟨(by first | rfl | (simp only [oM_charges, eq_true b_9, if_true, if_false, chP]; first | done | rfl)), (by first | rfl | (simp only [oM_charges, eq_true b_9, if_true, if_false, chP]; first | done | rfl))⟩)

def oM_fires (w15 : Nat → Int32) (w16 : Nat → Int32) (f : Int32) (level : Int32) : Int32 × ((Nat → Int32) × (Nat → Int32)) := if oM_isThree f = 0 then ((oM_fail (w15) 1).1, ((oM_fail (w15) 1).2), w16) else (if oM_isIn level 0 5 = 0 then ((oM_fail (w15) 2).1, ((oM_fail (w15) 2).2), w16) else ((w16 ((9 + 6 * f.toNatClampNeg) + 5)), w15, (upd (w16) ((9 + 6 * f.toNatClampNeg) + 5) level)))
set_option maxHeartbeats 4000000 in
set_option maxRecDepth 100000 in
theorem cX8_fires_ok (l : Launch) (G : GT) (X : St) (f : Int32) (level : Int32) : MetI l G yX8_fires (wsG yX8_fires cX8_fires 4 (some .int)) (rmz 2 42) [.ref (ad G 723), .int f, .int level] X (fun res Y => res = (oM_fires (X.1 15) (X.1 16) f level).1 ∧ Y = setRow (setRow (X) 15 ((oM_fires (X.1 15) (X.1 16) f level).2.1)) 16 ((oM_fires (X.1 15) (X.1 16) f level).2.2)) := by
  refine g_met (cc := cX8_fires) (maxL := 4) (ret := (some .int)) (by decide) rfl (Nat.le_of_ble_eq_true rfl) ?_
  intro p e s m below meth c ls C hr hlk hnm hW hl
  have hx := C.1.1
  have hb := C.1.2.1
  have hS : va_S (Ab G) s.heap s.heap [] := va_S.rf
  have hl : lv_has ls 4 [(0, .ref (ad G 723)), (1, .int f), (2, .int level)] := hl
  have hW : Wd G (setRow (setRow (X) 15 (X.1 15)) 16 (X.1 16)) s.heap := Wd.cast (((sr_same (X := setRow (X) 15 (X.1 15)) (r := 16) rfl).trans (sr_same (X := X) (r := 15) rfl))).symm hW
  refine lv_iload_n hx hb dX8_fires_0 rfl (lv_at hl 1 rfl) ?_
  refine g_calli (va_runS (As := [.int f]) (rest := []) C.1 (cX8_isThree_ok l G (setRow (setRow X 15 (X.1 15)) 16 (X.1 16)) f) (va_cwS 1 C.1.2.2.2.2 (gS qw_1565 qw_1566 qw_81 qw_1567) rfl rfl rfl (by decide +kernel) ⟨Nat.le_of_ble_eq_true rfl, Nat.le_of_ble_eq_true rfl⟩) (g_pre C hW hS [.int f]) rfl rfl hl.1 rfl (lv_room (Nat.le_of_ble_eq_true rfl)) dX8_fires_1 ⟨Nat.zero_le _, Nat.zero_le _⟩) hS (fun r_2 Y_3 H_4 locs_5 hW_6 hS_7 h_1 => ?_)
  obtain ⟨h_1, hy_8⟩ := h_1
  replace hy_8 := hy_8.symm
  subst hy_8
  replace h_1 : r_2 = oM_isThree f := h_1
  subst h_1
  refine lv_if_ne (tgt := 13) hx hb dX8_fires_4 (by decide) (fun b_9 => ?_) (fun b_9 => ?_)
  · obtain ⟨f_10, hf_10, rfl⟩ := three_in b_9
    refine lv_iload_n hx hb dX8_fires_13 rfl (lv_at hl 2 rfl) ?_
    refine lv_iconst (v := 0) hx hb dX8_fires_14 (by decide) ?_
    refine lv_iconst (v := 5) hx hb dX8_fires_15 (by decide) ?_
    refine g_calli (va_runS (As := [.int level, .int 0, .int 5]) (rest := []) C.1 (cX8_isIn_ok l G (setRow (setRow X 15 (X.1 15)) 16 (X.1 16)) level 0 5) (va_cwS 3 C.1.2.2.2.2 (gS qw_1568 qw_1569 qw_81 qw_1570) rfl rfl rfl (by decide +kernel) ⟨Nat.le_of_ble_eq_true rfl, Nat.le_of_ble_eq_true rfl⟩) (g_pre C hW_6 hS_7 [.int level, .int 0, .int 5]) rfl rfl hl.1 rfl (lv_room (Nat.le_of_ble_eq_true rfl)) dX8_fires_16 ⟨Nat.zero_le _, Nat.zero_le _⟩) hS_7 (fun r_12 Y_13 H_14 locs_15 hW_16 hS_17 h_11 => ?_)
    obtain ⟨h_11, hy_18⟩ := h_11
    replace hy_18 := hy_18.symm
    subst hy_18
    replace h_11 : r_12 = oM_isIn level 0 5 := h_11
    subst h_11
    refine lv_if_ne (tgt := 28) hx hb dX8_fires_19 (by decide) (fun b_19 => ?_) (fun b_19 => ?_)
    · refine lv_aload_n hx hb dX8_fires_28 rfl (lv_at hl 0 rfl) ?_
      refine gM_v C hW_16 (hwc hwX8) (mc qw_1481) dX8_fires_29 ?_
      refine lv_iload_n hx hb dX8_fires_32 rfl (lv_at hl 1 rfl) ?_
      refine g_calli (va_runS (As := [.int (nI f_10)]) (rest := [.ref (ad G 724)]) C.1 (cX8_furnace_ok l G (setRow (setRow X 15 (X.1 15)) 16 (X.1 16)) (nI f_10)) (va_cwS 1 C.1.2.2.2.2 (gS qw_1470 qw_1471 qw_81 qw_1472) rfl rfl rfl (by decide +kernel) ⟨Nat.le_of_ble_eq_true rfl, Nat.le_of_ble_eq_true rfl⟩) (g_pre C hW_16 hS_17 [.int (nI f_10)]) rfl rfl hl.1 rfl (lv_room (Nat.le_of_ble_eq_true rfl)) dX8_fires_33 ⟨Nat.zero_le _, Nat.zero_le _⟩) hS_17 (fun r_21 Y_22 H_23 locs_24 hW_25 hS_26 h_20 => ?_)
      obtain ⟨h_20, hy_27⟩ := h_20
      replace hy_27 := hy_27.symm
      subst hy_27
      replace h_20 : r_21 = oM_furnace (nI f_10) := h_20
      subst h_20
      refine g_top (y := nI (9 + 6 * f_10)) (at_furnace f_10) ?_
      refine lv_iconst (v := 5) hx hb dX8_fires_36 (by decide) ?_
      refine lv_iadd hx hb dX8_fires_37 ?_
      refine g_top (y := nI ((9 + 6 * f_10) + 5)) (nI_add (9 + 6 * f_10) 5) ?_
      refine gm_vld C hW_25 ((9 + 6 * f_10) + 5) (nI_clamp (by omega)) (vp_in_nI (show (9 + 6 * f_10) + 5 < 128 by omega) (by decide)) dX8_fires_38 ?_
      refine g_top (y := X.1 16 ((9 + 6 * f_10) + 5)) (congrFun rd_out _) ?_
      refine lv_topi (fun v_28 ev_28 => ?_)
      refine lv_istore_n (lv' := [(3, .int v_28), (0, .ref (ad G 723)), (1, .int (nI f_10)), (2, .int level)]) hx hb dX8_fires_39 rfl hl (by decide) rfl (fun ls_29 hl_30 => ?_)
      refine lv_aload_n hx hb dX8_fires_40 rfl (lv_at hl_30 1 rfl) ?_
      refine gM_v C hW_25 (hwc hwX8) (mc qw_1481) dX8_fires_41 ?_
      refine lv_iload_n hx hb dX8_fires_44 rfl (lv_at hl_30 2 rfl) ?_
      refine g_calli (va_runS (As := [.int (nI f_10)]) (rest := [.ref (ad G 724)]) C.1 (cX8_furnace_ok l G (setRow (setRow X 15 (X.1 15)) 16 (X.1 16)) (nI f_10)) (va_cwS 1 C.1.2.2.2.2 (gS qw_1470 qw_1471 qw_81 qw_1472) rfl rfl rfl (by decide +kernel) ⟨Nat.le_of_ble_eq_true rfl, Nat.le_of_ble_eq_true rfl⟩) (g_pre C hW_25 hS_26 [.int (nI f_10)]) rfl rfl hl_30.1 rfl (lv_room (Nat.le_of_ble_eq_true rfl)) dX8_fires_45 ⟨Nat.zero_le _, Nat.zero_le _⟩) hS_26 (fun r_32 Y_33 H_34 locs_35 hW_36 hS_37 h_31 => ?_)
      obtain ⟨h_31, hy_38⟩ := h_31
      replace hy_38 := hy_38.symm
      subst hy_38
      replace h_31 : r_32 = oM_furnace (nI f_10) := h_31
      subst h_31
      refine g_top (y := nI (9 + 6 * f_10)) (at_furnace f_10) ?_
      refine lv_iconst (v := 5) hx hb dX8_fires_48 (by decide) ?_
      refine lv_iadd hx hb dX8_fires_49 ?_
      refine g_top (y := nI ((9 + 6 * f_10) + 5)) (nI_add (9 + 6 * f_10) 5) ?_
      refine lv_iload_n hx hb dX8_fires_50 rfl (lv_at hl_30 3 rfl) ?_
      refine gm_vst C hW_36 hS_37 ((9 + 6 * f_10) + 5) (nI_clamp (by omega)) (vp_in_nI (show (9 + 6 * f_10) + 5 < 128 by omega) (by decide)) dX8_fires_51 (fun H_39 locs_40 hW_41 hS_42 => ?_)
      obtain ⟨w_43, ew_43⟩ : ∃ Z9, Z9 = upd (X.1 16) ((9 + 6 * f_10) + 5) level := ⟨_, rfl⟩
      have hW_44 : Wd G (setRow (setRow X 15 (X.1 15)) 16 w_43) H_39 := Wd.cast (by rw [ew_43]; exact st_out) hW_41
      refine lv_iload_n hx hb dX8_fires_52 rfl (lv_at hl_30 0 rfl) ?_
      exact g_iret C hr hlk hW_44 hS_42 dX8_fires_53 (by subst ew_43; subst ev_28; exact ⟨(by first | rfl | (simp only [oM_fires, clf (show f_10 < 2 ^ 31 by omega), b_9, b_19, if_true, if_false]; first | done | rfl)), (by first | rfl | (simp only [oM_fires, clf (show f_10 < 2 ^ 31 by omega), b_9, b_19, if_true, if_false]; first | done | rfl))⟩)
    · refine lv_aload_n hx hb dX8_fires_22 rfl (lv_at hl 0 rfl) ?_
      refine lv_iconst (v := 2) hx hb dX8_fires_23 (by decide) ?_
      refine g_calli (va_runV (As := [.int 2]) (rest := []) C.1 (cX8_fail_ok l G (setRow (setRow X 15 (X.1 15)) 16 (X.1 16)) 2) (cwV 1 C.1.2.2.2.2 (gV qw_1571 qw_1573 qw_31 qw_81 qw_1574) rfl rfl rfl (by decide +kernel) ⟨Nat.le_of_ble_eq_true rfl, Nat.le_of_ble_eq_true rfl⟩) (g_rModel C hW_16 hS_17 [.int 2]) rfl rfl hl.1 rfl (lv_room (Nat.le_of_ble_eq_true rfl)) dX8_fires_24 ⟨Nat.zero_le _, Nat.zero_le _⟩) hS_17 (fun r_46 Y_47 H_48 locs_49 hW_50 hS_51 h_45 => ?_)
      obtain ⟨h_52, h_45⟩ := h_45
      replace h_52 : r_46 = (oM_fail (X.1 15) 2).1 := h_52
      subst h_52
      replace h_45 : Y_47 = setRow (setRow (setRow X 15 (X.1 15)) 16 (X.1 16)) 15 ((oM_fail (X.1 15) 2).2) := h_45
      obtain ⟨w_53, ew_53⟩ : ∃ Z9, Z9 = (oM_fail (X.1 15) 2).2 := ⟨_, rfl⟩
      have qqw_53 : Y_47 = setRow (setRow (setRow X 15 (X.1 15)) 16 (X.1 16)) 15 w_53 := by rw [h_45, ew_53]
      have hW_54 : Wd G (setRow (setRow X 15 w_53) 16 (X.1 16)) H_48 := Wd.cast ((qqw_53).trans (congrArg (fun Z9 => Z9) (sr_in (by decide) sr_out))) hW_50
      exact g_iret C hr hlk hW_54 hS_51 dX8_fires_27 (by subst ew_53; exact ⟨(by first | rfl | (simp only [oM_fires, clf (show f_10 < 2 ^ 31 by omega), b_9, eq_true b_19, if_true, if_false]; first | done | rfl)), (by first | rfl | (simp only [oM_fires, clf (show f_10 < 2 ^ 31 by omega), b_9, eq_true b_19, if_true, if_false]; first | done | rfl))⟩)
  · refine lv_aload_n hx hb dX8_fires_7 rfl (lv_at hl 0 rfl) ?_
    refine lv_iconst (v := 1) hx hb dX8_fires_8 (by decide) ?_
    refine g_calli (va_runV (As := [.int 1]) (rest := []) C.1 (cX8_fail_ok l G (setRow (setRow X 15 (X.1 15)) 16 (X.1 16)) 1) (cwV 1 C.1.2.2.2.2 (gV qw_1571 qw_1573 qw_31 qw_81 qw_1574) rfl rfl rfl (by decide +kernel) ⟨Nat.le_of_ble_eq_true rfl, Nat.le_of_ble_eq_true rfl⟩) (g_rModel C hW_6 hS_7 [.int 1]) rfl rfl hl.1 rfl (lv_room (Nat.le_of_ble_eq_true rfl)) dX8_fires_9 ⟨Nat.zero_le _, Nat.zero_le _⟩) hS_7 (fun r_56 Y_57 H_58 locs_59 hW_60 hS_61 h_55 => ?_)
    obtain ⟨h_62, h_55⟩ := h_55
    replace h_62 : r_56 = (oM_fail (X.1 15) 1).1 := h_62
    subst h_62
    replace h_55 : Y_57 = setRow (setRow (setRow X 15 (X.1 15)) 16 (X.1 16)) 15 ((oM_fail (X.1 15) 1).2) := h_55
    obtain ⟨w_63, ew_63⟩ : ∃ Z9, Z9 = (oM_fail (X.1 15) 1).2 := ⟨_, rfl⟩
    have qqw_63 : Y_57 = setRow (setRow (setRow X 15 (X.1 15)) 16 (X.1 16)) 15 w_63 := by rw [h_55, ew_63]
    have hW_64 : Wd G (setRow (setRow X 15 w_63) 16 (X.1 16)) H_58 := Wd.cast ((qqw_63).trans (congrArg (fun Z9 => Z9) (sr_in (by decide) sr_out))) hW_60
    exact g_iret C hr hlk hW_64 hS_61 dX8_fires_12 (by subst ew_63; exact ⟨(by first | rfl | (simp only [oM_fires, eq_true b_9, if_true, if_false]; first | done | rfl)), (by first | rfl | (simp only [oM_fires, eq_true b_9, if_true, if_false]; first | done | rfl))⟩)

def oM_skims (w15 : Nat → Int32) (w16 : Nat → Int32) (w21 : Nat → Int32) (f : Int32) : Int32 × ((Nat → Int32) × (Nat → Int32)) := if oM_isThree f = 0 then ((oM_fail (w15) 1).1, ((oM_fail (w15) 1).2), w16) else (if (w16 ((9 + 6 * f.toNatClampNeg) + 3)) = 0 then ((oM_fail (w15) 2).1, ((oM_fail (w15) 2).2), w16) else (if oM_isFluid (w16) (w21) (9 + 6 * f.toNatClampNeg) = 0 then ((oM_fail (w15) 3).1, ((oM_fail (w15) 3).2), w16) else (if w16 ((9 + 6 * f.toNatClampNeg) + 1) ≤ w16 (9 + 6 * f.toNatClampNeg) then (if w16 ((9 + 6 * f.toNatClampNeg) + 2) ≤ w16 (9 + 6 * f.toNatClampNeg) then (if w16 (9 + 6 * f.toNatClampNeg) ≤ (w16 ((9 + 6 * f.toNatClampNeg) + 3)) / 4 then ((w16 ((9 + 6 * f.toNatClampNeg) + 3)) + (w16 (9 + 6 * f.toNatClampNeg)), w15, (upd (upd (upd (upd (w16) ((9 + 6 * f.toNatClampNeg) + 3) 0) (9 + 6 * f.toNatClampNeg) (((upd (w16) ((9 + 6 * f.toNatClampNeg) + 3) 0) (9 + 6 * f.toNatClampNeg)) - (w16 (9 + 6 * f.toNatClampNeg)))) (8) (((upd (upd (w16) ((9 + 6 * f.toNatClampNeg) + 3) 0) (9 + 6 * f.toNatClampNeg) (((upd (w16) ((9 + 6 * f.toNatClampNeg) + 3) 0) (9 + 6 * f.toNatClampNeg)) - (w16 (9 + 6 * f.toNatClampNeg)))) (8)) + (w16 ((9 + 6 * f.toNatClampNeg) + 3)))) (5) (((upd (upd (upd (w16) ((9 + 6 * f.toNatClampNeg) + 3) 0) (9 + 6 * f.toNatClampNeg) (((upd (w16) ((9 + 6 * f.toNatClampNeg) + 3) 0) (9 + 6 * f.toNatClampNeg)) - (w16 (9 + 6 * f.toNatClampNeg)))) (8) (((upd (upd (w16) ((9 + 6 * f.toNatClampNeg) + 3) 0) (9 + 6 * f.toNatClampNeg) (((upd (w16) ((9 + 6 * f.toNatClampNeg) + 3) 0) (9 + 6 * f.toNatClampNeg)) - (w16 (9 + 6 * f.toNatClampNeg)))) (8)) + (w16 ((9 + 6 * f.toNatClampNeg) + 3)))) (5)) + (w16 (9 + 6 * f.toNatClampNeg))))) else ((w16 ((9 + 6 * f.toNatClampNeg) + 3)) + ((w16 ((9 + 6 * f.toNatClampNeg) + 3)) / 4), w15, (upd (upd (upd (upd (w16) ((9 + 6 * f.toNatClampNeg) + 3) 0) (9 + 6 * f.toNatClampNeg) (((upd (w16) ((9 + 6 * f.toNatClampNeg) + 3) 0) (9 + 6 * f.toNatClampNeg)) - ((w16 ((9 + 6 * f.toNatClampNeg) + 3)) / 4))) (8) (((upd (upd (w16) ((9 + 6 * f.toNatClampNeg) + 3) 0) (9 + 6 * f.toNatClampNeg) (((upd (w16) ((9 + 6 * f.toNatClampNeg) + 3) 0) (9 + 6 * f.toNatClampNeg)) - ((w16 ((9 + 6 * f.toNatClampNeg) + 3)) / 4))) (8)) + (w16 ((9 + 6 * f.toNatClampNeg) + 3)))) (5) (((upd (upd (upd (w16) ((9 + 6 * f.toNatClampNeg) + 3) 0) (9 + 6 * f.toNatClampNeg) (((upd (w16) ((9 + 6 * f.toNatClampNeg) + 3) 0) (9 + 6 * f.toNatClampNeg)) - ((w16 ((9 + 6 * f.toNatClampNeg) + 3)) / 4))) (8) (((upd (upd (w16) ((9 + 6 * f.toNatClampNeg) + 3) 0) (9 + 6 * f.toNatClampNeg) (((upd (w16) ((9 + 6 * f.toNatClampNeg) + 3) 0) (9 + 6 * f.toNatClampNeg)) - ((w16 ((9 + 6 * f.toNatClampNeg) + 3)) / 4))) (8)) + (w16 ((9 + 6 * f.toNatClampNeg) + 3)))) (5)) + ((w16 ((9 + 6 * f.toNatClampNeg) + 3)) / 4))))) else (if w16 ((9 + 6 * f.toNatClampNeg) + 2) ≤ (w16 ((9 + 6 * f.toNatClampNeg) + 3)) / 4 then ((w16 ((9 + 6 * f.toNatClampNeg) + 3)) + (w16 ((9 + 6 * f.toNatClampNeg) + 2)), w15, (upd (upd (upd (upd (w16) ((9 + 6 * f.toNatClampNeg) + 3) 0) ((9 + 6 * f.toNatClampNeg) + 2) (((upd (w16) ((9 + 6 * f.toNatClampNeg) + 3) 0) ((9 + 6 * f.toNatClampNeg) + 2)) - (w16 ((9 + 6 * f.toNatClampNeg) + 2)))) (8) (((upd (upd (w16) ((9 + 6 * f.toNatClampNeg) + 3) 0) ((9 + 6 * f.toNatClampNeg) + 2) (((upd (w16) ((9 + 6 * f.toNatClampNeg) + 3) 0) ((9 + 6 * f.toNatClampNeg) + 2)) - (w16 ((9 + 6 * f.toNatClampNeg) + 2)))) (8)) + (w16 ((9 + 6 * f.toNatClampNeg) + 3)))) (7) (((upd (upd (upd (w16) ((9 + 6 * f.toNatClampNeg) + 3) 0) ((9 + 6 * f.toNatClampNeg) + 2) (((upd (w16) ((9 + 6 * f.toNatClampNeg) + 3) 0) ((9 + 6 * f.toNatClampNeg) + 2)) - (w16 ((9 + 6 * f.toNatClampNeg) + 2)))) (8) (((upd (upd (w16) ((9 + 6 * f.toNatClampNeg) + 3) 0) ((9 + 6 * f.toNatClampNeg) + 2) (((upd (w16) ((9 + 6 * f.toNatClampNeg) + 3) 0) ((9 + 6 * f.toNatClampNeg) + 2)) - (w16 ((9 + 6 * f.toNatClampNeg) + 2)))) (8)) + (w16 ((9 + 6 * f.toNatClampNeg) + 3)))) (7)) + (w16 ((9 + 6 * f.toNatClampNeg) + 2))))) else ((w16 ((9 + 6 * f.toNatClampNeg) + 3)) + ((w16 ((9 + 6 * f.toNatClampNeg) + 3)) / 4), w15, (upd (upd (upd (upd (w16) ((9 + 6 * f.toNatClampNeg) + 3) 0) ((9 + 6 * f.toNatClampNeg) + 2) (((upd (w16) ((9 + 6 * f.toNatClampNeg) + 3) 0) ((9 + 6 * f.toNatClampNeg) + 2)) - ((w16 ((9 + 6 * f.toNatClampNeg) + 3)) / 4))) (8) (((upd (upd (w16) ((9 + 6 * f.toNatClampNeg) + 3) 0) ((9 + 6 * f.toNatClampNeg) + 2) (((upd (w16) ((9 + 6 * f.toNatClampNeg) + 3) 0) ((9 + 6 * f.toNatClampNeg) + 2)) - ((w16 ((9 + 6 * f.toNatClampNeg) + 3)) / 4))) (8)) + (w16 ((9 + 6 * f.toNatClampNeg) + 3)))) (7) (((upd (upd (upd (w16) ((9 + 6 * f.toNatClampNeg) + 3) 0) ((9 + 6 * f.toNatClampNeg) + 2) (((upd (w16) ((9 + 6 * f.toNatClampNeg) + 3) 0) ((9 + 6 * f.toNatClampNeg) + 2)) - ((w16 ((9 + 6 * f.toNatClampNeg) + 3)) / 4))) (8) (((upd (upd (w16) ((9 + 6 * f.toNatClampNeg) + 3) 0) ((9 + 6 * f.toNatClampNeg) + 2) (((upd (w16) ((9 + 6 * f.toNatClampNeg) + 3) 0) ((9 + 6 * f.toNatClampNeg) + 2)) - ((w16 ((9 + 6 * f.toNatClampNeg) + 3)) / 4))) (8)) + (w16 ((9 + 6 * f.toNatClampNeg) + 3)))) (7)) + ((w16 ((9 + 6 * f.toNatClampNeg) + 3)) / 4)))))) else (if w16 ((9 + 6 * f.toNatClampNeg) + 2) ≤ w16 ((9 + 6 * f.toNatClampNeg) + 1) then (if w16 ((9 + 6 * f.toNatClampNeg) + 1) ≤ (w16 ((9 + 6 * f.toNatClampNeg) + 3)) / 4 then ((w16 ((9 + 6 * f.toNatClampNeg) + 3)) + (w16 ((9 + 6 * f.toNatClampNeg) + 1)), w15, (upd (upd (upd (upd (w16) ((9 + 6 * f.toNatClampNeg) + 3) 0) ((9 + 6 * f.toNatClampNeg) + 1) (((upd (w16) ((9 + 6 * f.toNatClampNeg) + 3) 0) ((9 + 6 * f.toNatClampNeg) + 1)) - (w16 ((9 + 6 * f.toNatClampNeg) + 1)))) (8) (((upd (upd (w16) ((9 + 6 * f.toNatClampNeg) + 3) 0) ((9 + 6 * f.toNatClampNeg) + 1) (((upd (w16) ((9 + 6 * f.toNatClampNeg) + 3) 0) ((9 + 6 * f.toNatClampNeg) + 1)) - (w16 ((9 + 6 * f.toNatClampNeg) + 1)))) (8)) + (w16 ((9 + 6 * f.toNatClampNeg) + 3)))) (6) (((upd (upd (upd (w16) ((9 + 6 * f.toNatClampNeg) + 3) 0) ((9 + 6 * f.toNatClampNeg) + 1) (((upd (w16) ((9 + 6 * f.toNatClampNeg) + 3) 0) ((9 + 6 * f.toNatClampNeg) + 1)) - (w16 ((9 + 6 * f.toNatClampNeg) + 1)))) (8) (((upd (upd (w16) ((9 + 6 * f.toNatClampNeg) + 3) 0) ((9 + 6 * f.toNatClampNeg) + 1) (((upd (w16) ((9 + 6 * f.toNatClampNeg) + 3) 0) ((9 + 6 * f.toNatClampNeg) + 1)) - (w16 ((9 + 6 * f.toNatClampNeg) + 1)))) (8)) + (w16 ((9 + 6 * f.toNatClampNeg) + 3)))) (6)) + (w16 ((9 + 6 * f.toNatClampNeg) + 1))))) else ((w16 ((9 + 6 * f.toNatClampNeg) + 3)) + ((w16 ((9 + 6 * f.toNatClampNeg) + 3)) / 4), w15, (upd (upd (upd (upd (w16) ((9 + 6 * f.toNatClampNeg) + 3) 0) ((9 + 6 * f.toNatClampNeg) + 1) (((upd (w16) ((9 + 6 * f.toNatClampNeg) + 3) 0) ((9 + 6 * f.toNatClampNeg) + 1)) - ((w16 ((9 + 6 * f.toNatClampNeg) + 3)) / 4))) (8) (((upd (upd (w16) ((9 + 6 * f.toNatClampNeg) + 3) 0) ((9 + 6 * f.toNatClampNeg) + 1) (((upd (w16) ((9 + 6 * f.toNatClampNeg) + 3) 0) ((9 + 6 * f.toNatClampNeg) + 1)) - ((w16 ((9 + 6 * f.toNatClampNeg) + 3)) / 4))) (8)) + (w16 ((9 + 6 * f.toNatClampNeg) + 3)))) (6) (((upd (upd (upd (w16) ((9 + 6 * f.toNatClampNeg) + 3) 0) ((9 + 6 * f.toNatClampNeg) + 1) (((upd (w16) ((9 + 6 * f.toNatClampNeg) + 3) 0) ((9 + 6 * f.toNatClampNeg) + 1)) - ((w16 ((9 + 6 * f.toNatClampNeg) + 3)) / 4))) (8) (((upd (upd (w16) ((9 + 6 * f.toNatClampNeg) + 3) 0) ((9 + 6 * f.toNatClampNeg) + 1) (((upd (w16) ((9 + 6 * f.toNatClampNeg) + 3) 0) ((9 + 6 * f.toNatClampNeg) + 1)) - ((w16 ((9 + 6 * f.toNatClampNeg) + 3)) / 4))) (8)) + (w16 ((9 + 6 * f.toNatClampNeg) + 3)))) (6)) + ((w16 ((9 + 6 * f.toNatClampNeg) + 3)) / 4))))) else (if w16 ((9 + 6 * f.toNatClampNeg) + 2) ≤ (w16 ((9 + 6 * f.toNatClampNeg) + 3)) / 4 then ((w16 ((9 + 6 * f.toNatClampNeg) + 3)) + (w16 ((9 + 6 * f.toNatClampNeg) + 2)), w15, (upd (upd (upd (upd (w16) ((9 + 6 * f.toNatClampNeg) + 3) 0) ((9 + 6 * f.toNatClampNeg) + 2) (((upd (w16) ((9 + 6 * f.toNatClampNeg) + 3) 0) ((9 + 6 * f.toNatClampNeg) + 2)) - (w16 ((9 + 6 * f.toNatClampNeg) + 2)))) (8) (((upd (upd (w16) ((9 + 6 * f.toNatClampNeg) + 3) 0) ((9 + 6 * f.toNatClampNeg) + 2) (((upd (w16) ((9 + 6 * f.toNatClampNeg) + 3) 0) ((9 + 6 * f.toNatClampNeg) + 2)) - (w16 ((9 + 6 * f.toNatClampNeg) + 2)))) (8)) + (w16 ((9 + 6 * f.toNatClampNeg) + 3)))) (7) (((upd (upd (upd (w16) ((9 + 6 * f.toNatClampNeg) + 3) 0) ((9 + 6 * f.toNatClampNeg) + 2) (((upd (w16) ((9 + 6 * f.toNatClampNeg) + 3) 0) ((9 + 6 * f.toNatClampNeg) + 2)) - (w16 ((9 + 6 * f.toNatClampNeg) + 2)))) (8) (((upd (upd (w16) ((9 + 6 * f.toNatClampNeg) + 3) 0) ((9 + 6 * f.toNatClampNeg) + 2) (((upd (w16) ((9 + 6 * f.toNatClampNeg) + 3) 0) ((9 + 6 * f.toNatClampNeg) + 2)) - (w16 ((9 + 6 * f.toNatClampNeg) + 2)))) (8)) + (w16 ((9 + 6 * f.toNatClampNeg) + 3)))) (7)) + (w16 ((9 + 6 * f.toNatClampNeg) + 2))))) else ((w16 ((9 + 6 * f.toNatClampNeg) + 3)) + ((w16 ((9 + 6 * f.toNatClampNeg) + 3)) / 4), w15, (upd (upd (upd (upd (w16) ((9 + 6 * f.toNatClampNeg) + 3) 0) ((9 + 6 * f.toNatClampNeg) + 2) (((upd (w16) ((9 + 6 * f.toNatClampNeg) + 3) 0) ((9 + 6 * f.toNatClampNeg) + 2)) - ((w16 ((9 + 6 * f.toNatClampNeg) + 3)) / 4))) (8) (((upd (upd (w16) ((9 + 6 * f.toNatClampNeg) + 3) 0) ((9 + 6 * f.toNatClampNeg) + 2) (((upd (w16) ((9 + 6 * f.toNatClampNeg) + 3) 0) ((9 + 6 * f.toNatClampNeg) + 2)) - ((w16 ((9 + 6 * f.toNatClampNeg) + 3)) / 4))) (8)) + (w16 ((9 + 6 * f.toNatClampNeg) + 3)))) (7) (((upd (upd (upd (w16) ((9 + 6 * f.toNatClampNeg) + 3) 0) ((9 + 6 * f.toNatClampNeg) + 2) (((upd (w16) ((9 + 6 * f.toNatClampNeg) + 3) 0) ((9 + 6 * f.toNatClampNeg) + 2)) - ((w16 ((9 + 6 * f.toNatClampNeg) + 3)) / 4))) (8) (((upd (upd (w16) ((9 + 6 * f.toNatClampNeg) + 3) 0) ((9 + 6 * f.toNatClampNeg) + 2) (((upd (w16) ((9 + 6 * f.toNatClampNeg) + 3) 0) ((9 + 6 * f.toNatClampNeg) + 2)) - ((w16 ((9 + 6 * f.toNatClampNeg) + 3)) / 4))) (8)) + (w16 ((9 + 6 * f.toNatClampNeg) + 3)))) (7)) + ((w16 ((9 + 6 * f.toNatClampNeg) + 3)) / 4)))))))))
set_option maxHeartbeats 4000000 in
set_option maxRecDepth 100000 in
theorem cX8_skims_ok (l : Launch) (G : GT) (X : St) (f : Int32) : MetI l G yX8_skims (wsG yX8_skims cX8_skims 6 (some .int)) (rmz 3 65) [.ref (ad G 723), .int f] X (fun res Y => res = (oM_skims (X.1 15) (X.1 16) (X.1 21) f).1 ∧ Y = setRow (setRow (X) 15 ((oM_skims (X.1 15) (X.1 16) (X.1 21) f).2.1)) 16 ((oM_skims (X.1 15) (X.1 16) (X.1 21) f).2.2)) := by
  refine g_met (cc := cX8_skims) (maxL := 6) (ret := (some .int)) (by decide) rfl (Nat.le_of_ble_eq_true rfl) ?_
  intro p e s m below meth c ls C hr hlk hnm hW hl
  have hx := C.1.1
  have hb := C.1.2.1
  have hS : va_S (Ab G) s.heap s.heap [] := va_S.rf
  have hl : lv_has ls 6 [(0, .ref (ad G 723)), (1, .int f)] := hl
  have hW : Wd G (setRow (setRow (X) 15 (X.1 15)) 16 (X.1 16)) s.heap := Wd.cast (((sr_same (X := setRow (X) 15 (X.1 15)) (r := 16) rfl).trans (sr_same (X := X) (r := 15) rfl))).symm hW
  refine lv_iload_n hx hb dX8_skims_0 rfl (lv_at hl 1 rfl) ?_
  refine g_calli (va_runS (As := [.int f]) (rest := []) C.1 (cX8_isThree_ok l G (setRow (setRow X 15 (X.1 15)) 16 (X.1 16)) f) (va_cwS 1 C.1.2.2.2.2 (gS qw_1565 qw_1566 qw_81 qw_1567) rfl rfl rfl (by decide +kernel) ⟨Nat.le_of_ble_eq_true rfl, Nat.le_of_ble_eq_true rfl⟩) (g_pre C hW hS [.int f]) rfl rfl hl.1 rfl (lv_room (Nat.le_of_ble_eq_true rfl)) dX8_skims_1 ⟨Nat.zero_le _, Nat.zero_le _⟩) hS (fun r_2 Y_3 H_4 locs_5 hW_6 hS_7 h_1 => ?_)
  obtain ⟨h_1, hy_8⟩ := h_1
  replace hy_8 := hy_8.symm
  subst hy_8
  replace h_1 : r_2 = oM_isThree f := h_1
  subst h_1
  refine lv_if_ne (tgt := 13) hx hb dX8_skims_4 (by decide) (fun b_9 => ?_) (fun b_9 => ?_)
  · obtain ⟨f_10, hf_10, rfl⟩ := three_in b_9
    refine lv_iload_n hx hb dX8_skims_13 rfl (lv_at hl 1 rfl) ?_
    refine g_calli (va_runS (As := [.int (nI f_10)]) (rest := []) C.1 (cX8_furnace_ok l G (setRow (setRow X 15 (X.1 15)) 16 (X.1 16)) (nI f_10)) (va_cwS 1 C.1.2.2.2.2 (gS qw_1470 qw_1471 qw_81 qw_1472) rfl rfl rfl (by decide +kernel) ⟨Nat.le_of_ble_eq_true rfl, Nat.le_of_ble_eq_true rfl⟩) (g_pre C hW_6 hS_7 [.int (nI f_10)]) rfl rfl hl.1 rfl (lv_room (Nat.le_of_ble_eq_true rfl)) dX8_skims_14 ⟨Nat.zero_le _, Nat.zero_le _⟩) hS_7 (fun r_12 Y_13 H_14 locs_15 hW_16 hS_17 h_11 => ?_)
    obtain ⟨h_11, hy_18⟩ := h_11
    replace hy_18 := hy_18.symm
    subst hy_18
    replace h_11 : r_12 = oM_furnace (nI f_10) := h_11
    subst h_11
    refine g_top (y := nI (9 + 6 * f_10)) (at_furnace f_10) ?_
    refine lv_istore_n (lv' := [(2, .int (nI (9 + 6 * f_10))), (0, .ref (ad G 723)), (1, .int (nI f_10))]) hx hb dX8_skims_17 rfl hl (by decide) rfl (fun ls_19 hl_20 => ?_)
    refine lv_aload_n hx hb dX8_skims_18 rfl (lv_at hl_20 1 rfl) ?_
    refine gM_v C hW_16 (hwc hwX8) (mc qw_1481) dX8_skims_19 ?_
    refine lv_iload_n hx hb dX8_skims_22 rfl (lv_at hl_20 0 rfl) ?_
    refine lv_iconst (v := 3) hx hb dX8_skims_23 (by decide) ?_
    refine lv_iadd hx hb dX8_skims_24 ?_
    refine g_top (y := nI ((9 + 6 * f_10) + 3)) (nI_add (9 + 6 * f_10) 3) ?_
    refine gm_vld C hW_16 ((9 + 6 * f_10) + 3) (nI_clamp (by omega)) (vp_in_nI (show (9 + 6 * f_10) + 3 < 128 by omega) (by decide)) dX8_skims_25 ?_
    refine g_top (y := X.1 16 ((9 + 6 * f_10) + 3)) (congrFun rd_out _) ?_
    refine lv_topi (fun v_21 ev_21 => ?_)
    refine lv_istore_n (lv' := [(3, .int v_21), (2, .int (nI (9 + 6 * f_10))), (0, .ref (ad G 723)), (1, .int (nI f_10))]) hx hb dX8_skims_26 rfl hl_20 (by decide) rfl (fun ls_22 hl_23 => ?_)
    refine lv_iconst (v := 0) hx hb dX8_skims_27 (by decide) ?_
    refine lv_istore (lv' := [(4, .int 0), (3, .int v_21), (2, .int (nI (9 + 6 * f_10))), (0, .ref (ad G 723)), (1, .int (nI f_10))]) hx hb dX8_skims_28 hl_23 (by decide) rfl (fun ls_24 hl_25 => ?_)
    refine lv_iload_n hx hb dX8_skims_30 rfl (lv_at hl_25 1 rfl) ?_
    refine lv_if_ne (tgt := 40) hx hb dX8_skims_31 (by decide) (fun b_26 => ?_) (fun b_26 => ?_)
    · refine lv_aload_n hx hb dX8_skims_40 rfl (lv_at hl_25 3 rfl) ?_
      refine lv_iload_n hx hb dX8_skims_41 rfl (lv_at hl_25 2 rfl) ?_
      refine g_calli (va_runV (As := [.int (nI (9 + 6 * f_10))]) (rest := []) C.1 (cX8_isFluid_ok l G (setRow (setRow X 15 (X.1 15)) 16 (X.1 16)) (9 + 6 * f_10) (show 9 + 6 * f_10 + 5 ≤ 128 by omega)) (cwV 1 C.1.2.2.2.2 (gV qw_1611 qw_1613 qw_39 qw_81 qw_1614) rfl rfl rfl (by decide +kernel) ⟨Nat.le_of_ble_eq_true rfl, Nat.le_of_ble_eq_true rfl⟩) (g_rModel C hW_16 hS_17 [.int (nI (9 + 6 * f_10))]) rfl rfl hl_25.1 rfl (lv_room (Nat.le_of_ble_eq_true rfl)) dX8_skims_42 ⟨Nat.zero_le _, Nat.zero_le _⟩) hS_17 (fun r_28 Y_29 H_30 locs_31 hW_32 hS_33 h_27 => ?_)
      obtain ⟨h_27, hy_34⟩ := h_27
      replace hy_34 := hy_34.symm
      subst hy_34
      replace h_27 : r_28 = oM_isFluid (X.1 16) (X.1 21) (9 + 6 * f_10) := h_27
      subst h_27
      refine lv_if_ne (tgt := 54) hx hb dX8_skims_45 (by decide) (fun b_35 => ?_) (fun b_35 => ?_)
      · refine lv_iconst (v := 1) hx hb dX8_skims_54 (by decide) ?_
        refine lv_istore (lv' := [(5, .int 1), (4, .int 0), (3, .int v_21), (2, .int (nI (9 + 6 * f_10))), (0, .ref (ad G 723)), (1, .int (nI f_10))]) hx hb dX8_skims_55 hl_25 (by decide) rfl (fun ls_36 hl_37 => ?_)
        refine lv_iload hx hb dX8_skims_57 (lv_at hl_37 0 rfl) ?_
        refine lv_iconst (v := 3) hx hb dX8_skims_59 (by decide) ?_
        refine lv_icmp_ge (tgt := 94) hx hb dX8_skims_60 (by decide) (fun h9 => absurd h9 (by decide)) (fun _ => ?_)
        refine lv_aload_n hx hb dX8_skims_63 rfl (lv_at hl_37 4 rfl) ?_
        refine gM_v C hW_32 (hwc hwX8) (mc qw_1481) dX8_skims_64 ?_
        refine lv_iload_n hx hb dX8_skims_67 rfl (lv_at hl_37 3 rfl) ?_
        refine lv_iload hx hb dX8_skims_68 (lv_at hl_37 0 rfl) ?_
        refine lv_iadd hx hb dX8_skims_70 ?_
        refine g_top (y := nI ((9 + 6 * f_10) + 1)) (nI_add (9 + 6 * f_10) 1) ?_
        refine gm_vld C hW_32 ((9 + 6 * f_10) + 1) (nI_clamp (by omega)) (vp_in_nI (show (9 + 6 * f_10) + 1 < 128 by omega) (by decide)) dX8_skims_71 ?_
        refine g_top (y := X.1 16 ((9 + 6 * f_10) + 1)) (congrFun rd_out _) ?_
        refine lv_aload_n hx hb dX8_skims_72 rfl (lv_at hl_37 4 rfl) ?_
        refine gM_v C hW_32 (hwc hwX8) (mc qw_1481) dX8_skims_73 ?_
        refine lv_iload_n hx hb dX8_skims_76 rfl (lv_at hl_37 3 rfl) ?_
        refine lv_iload hx hb dX8_skims_77 (lv_at hl_37 1 rfl) ?_
        refine lv_iadd hx hb dX8_skims_79 ?_
        refine g_top (y := (nI (9 + 6 * f_10))) (Int32.add_zero _) ?_
        refine gm_vld C hW_32 (9 + 6 * f_10) (nI_clamp (by omega)) (vp_in_nI (show 9 + 6 * f_10 < 128 by omega) (by decide)) dX8_skims_80 ?_
        refine g_top (y := X.1 16 (9 + 6 * f_10)) (congrFun rd_out _) ?_
        refine lv_icmp_le (tgt := 88) hx hb dX8_skims_81 (by decide) (fun b_38 => ?_) (fun b_38 => ?_)
        · refine lv_iinc (v := 2) (lv' := [(5, .int 2), (4, .int 0), (3, .int v_21), (2, .int (nI (9 + 6 * f_10))), (0, .ref (ad G 723)), (1, .int (nI f_10))]) hx hb dX8_skims_88 hl_37 (k := 0) rfl (by decide) (by decide) rfl (fun ls_39 hl_40 => ?_)
          refine lv_goto (tgt := 57) hx hb dX8_skims_91 (by decide) ?_
          refine lv_iload hx hb dX8_skims_57 (lv_at hl_40 0 rfl) ?_
          refine lv_iconst (v := 3) hx hb dX8_skims_59 (by decide) ?_
          refine lv_icmp_ge (tgt := 94) hx hb dX8_skims_60 (by decide) (fun h9 => absurd h9 (by decide)) (fun _ => ?_)
          refine lv_aload_n hx hb dX8_skims_63 rfl (lv_at hl_40 4 rfl) ?_
          refine gM_v C hW_32 (hwc hwX8) (mc qw_1481) dX8_skims_64 ?_
          refine lv_iload_n hx hb dX8_skims_67 rfl (lv_at hl_40 3 rfl) ?_
          refine lv_iload hx hb dX8_skims_68 (lv_at hl_40 0 rfl) ?_
          refine lv_iadd hx hb dX8_skims_70 ?_
          refine g_top (y := nI ((9 + 6 * f_10) + 2)) (nI_add (9 + 6 * f_10) 2) ?_
          refine gm_vld C hW_32 ((9 + 6 * f_10) + 2) (nI_clamp (by omega)) (vp_in_nI (show (9 + 6 * f_10) + 2 < 128 by omega) (by decide)) dX8_skims_71 ?_
          refine g_top (y := X.1 16 ((9 + 6 * f_10) + 2)) (congrFun rd_out _) ?_
          refine lv_aload_n hx hb dX8_skims_72 rfl (lv_at hl_40 4 rfl) ?_
          refine gM_v C hW_32 (hwc hwX8) (mc qw_1481) dX8_skims_73 ?_
          refine lv_iload_n hx hb dX8_skims_76 rfl (lv_at hl_40 3 rfl) ?_
          refine lv_iload hx hb dX8_skims_77 (lv_at hl_40 1 rfl) ?_
          refine lv_iadd hx hb dX8_skims_79 ?_
          refine g_top (y := (nI (9 + 6 * f_10))) (Int32.add_zero _) ?_
          refine gm_vld C hW_32 (9 + 6 * f_10) (nI_clamp (by omega)) (vp_in_nI (show 9 + 6 * f_10 < 128 by omega) (by decide)) dX8_skims_80 ?_
          refine g_top (y := X.1 16 (9 + 6 * f_10)) (congrFun rd_out _) ?_
          refine lv_icmp_le (tgt := 88) hx hb dX8_skims_81 (by decide) (fun b_41 => ?_) (fun b_41 => ?_)
          · refine lv_iinc (v := 3) (lv' := [(5, .int 3), (4, .int 0), (3, .int v_21), (2, .int (nI (9 + 6 * f_10))), (0, .ref (ad G 723)), (1, .int (nI f_10))]) hx hb dX8_skims_88 hl_40 (k := 0) rfl (by decide) (by decide) rfl (fun ls_42 hl_43 => ?_)
            refine lv_goto (tgt := 57) hx hb dX8_skims_91 (by decide) ?_
            refine lv_iload hx hb dX8_skims_57 (lv_at hl_43 0 rfl) ?_
            refine lv_iconst (v := 3) hx hb dX8_skims_59 (by decide) ?_
            refine lv_icmp_ge (tgt := 94) hx hb dX8_skims_60 (by decide) (fun _ => ?_) (fun h9 => absurd h9 (by decide))
            refine lv_iload_n hx hb dX8_skims_94 rfl (lv_at hl_43 2 rfl) ?_
            refine lv_iconst (v := 4) hx hb dX8_skims_95 (by decide) ?_
            refine lv_idiv hx hb dX8_skims_96 (by decide) ?_
            refine lv_aload_n hx hb dX8_skims_97 rfl (lv_at hl_43 4 rfl) ?_
            refine gM_v C hW_32 (hwc hwX8) (mc qw_1481) dX8_skims_98 ?_
            refine lv_iload_n hx hb dX8_skims_101 rfl (lv_at hl_43 3 rfl) ?_
            refine lv_iload hx hb dX8_skims_102 (lv_at hl_43 1 rfl) ?_
            refine lv_iadd hx hb dX8_skims_104 ?_
            refine g_top (y := (nI (9 + 6 * f_10))) (Int32.add_zero _) ?_
            refine gm_vld C hW_32 (9 + 6 * f_10) (nI_clamp (by omega)) (vp_in_nI (show 9 + 6 * f_10 < 128 by omega) (by decide)) dX8_skims_105 ?_
            refine g_top (y := X.1 16 (9 + 6 * f_10)) (congrFun rd_out _) ?_
            refine lv_icmp_ge (tgt := 115) hx hb dX8_skims_106 (by decide) (fun b_44 => ?_) (fun b_44 => ?_)
            · refine lv_aload_n hx hb dX8_skims_115 rfl (lv_at hl_43 4 rfl) ?_
              refine gM_v C hW_32 (hwc hwX8) (mc qw_1481) dX8_skims_116 ?_
              refine lv_iload_n hx hb dX8_skims_119 rfl (lv_at hl_43 3 rfl) ?_
              refine lv_iload hx hb dX8_skims_120 (lv_at hl_43 1 rfl) ?_
              refine lv_iadd hx hb dX8_skims_122 ?_
              refine g_top (y := (nI (9 + 6 * f_10))) (Int32.add_zero _) ?_
              refine gm_vld C hW_32 (9 + 6 * f_10) (nI_clamp (by omega)) (vp_in_nI (show 9 + 6 * f_10 < 128 by omega) (by decide)) dX8_skims_123 ?_
              refine g_top (y := X.1 16 (9 + 6 * f_10)) (congrFun rd_out _) ?_
              refine lv_topi (fun v_45 ev_45 => ?_)
              refine lv_istore (lv' := [(5, .int v_45), (4, .int 0), (3, .int v_21), (2, .int (nI (9 + 6 * f_10))), (0, .ref (ad G 723)), (1, .int (nI f_10))]) hx hb dX8_skims_124 hl_43 (by decide) rfl (fun ls_46 hl_47 => ?_)
              refine lv_aload_n hx hb dX8_skims_126 rfl (lv_at hl_47 4 rfl) ?_
              refine gM_v C hW_32 (hwc hwX8) (mc qw_1481) dX8_skims_127 ?_
              refine lv_iload_n hx hb dX8_skims_130 rfl (lv_at hl_47 3 rfl) ?_
              refine lv_iconst (v := 3) hx hb dX8_skims_131 (by decide) ?_
              refine lv_iadd hx hb dX8_skims_132 ?_
              refine g_top (y := nI ((9 + 6 * f_10) + 3)) (nI_add (9 + 6 * f_10) 3) ?_
              refine lv_iconst (v := 0) hx hb dX8_skims_133 (by decide) ?_
              refine gm_vst C hW_32 hS_33 ((9 + 6 * f_10) + 3) (nI_clamp (by omega)) (vp_in_nI (show (9 + 6 * f_10) + 3 < 128 by omega) (by decide)) dX8_skims_134 (fun H_48 locs_49 hW_50 hS_51 => ?_)
              obtain ⟨w_52, ew_52⟩ : ∃ Z9, Z9 = upd (X.1 16) ((9 + 6 * f_10) + 3) 0 := ⟨_, rfl⟩
              have kn_53 : w_52 ((9 + 6 * f_10) + 3) = 0 := by rw [ew_52]; exact pk_us
              have hW_54 : Wd G (setRow (setRow X 15 (X.1 15)) 16 w_52) H_48 := Wd.cast (by rw [ew_52]; exact st_out) hW_50
              refine lv_aload_n hx hb dX8_skims_135 rfl (lv_at hl_47 4 rfl) ?_
              refine gM_v C hW_54 (hwc hwX8) (mc qw_1481) dX8_skims_136 ?_
              refine lv_iload_n hx hb dX8_skims_139 rfl (lv_at hl_47 3 rfl) ?_
              refine lv_iload hx hb dX8_skims_140 (lv_at hl_47 1 rfl) ?_
              refine lv_iadd hx hb dX8_skims_142 ?_
              refine g_top (y := (nI (9 + 6 * f_10))) (Int32.add_zero _) ?_
              refine lv_dup2_11 hx hb dX8_skims_143 rfl rfl ?_
              refine gm_vld C hW_54 (9 + 6 * f_10) (nI_clamp (by omega)) (vp_in_nI (show 9 + 6 * f_10 < 128 by omega) (by decide)) dX8_skims_144 ?_
              refine g_top (y := w_52 (9 + 6 * f_10)) (congrFun rd_out _) ?_
              refine lv_iload hx hb dX8_skims_145 (lv_at hl_47 0 rfl) ?_
              refine lv_isub hx hb dX8_skims_147 ?_
              refine gm_vst C hW_54 hS_51 (9 + 6 * f_10) (nI_clamp (by omega)) (vp_in_nI (show 9 + 6 * f_10 < 128 by omega) (by decide)) dX8_skims_148 (fun H_55 locs_56 hW_57 hS_58 => ?_)
              obtain ⟨w_59, ew_59⟩ : ∃ Z9, Z9 = upd w_52 (9 + 6 * f_10) ((w_52 (9 + 6 * f_10)) - v_45) := ⟨_, rfl⟩
              have kn_60 : w_59 ((9 + 6 * f_10) + 3) = 0 := by rw [ew_59]; exact (pk_un (by omega)).trans kn_53
              have hW_61 : Wd G (setRow (setRow X 15 (X.1 15)) 16 w_59) H_55 := Wd.cast (by rw [ew_59]; exact st_out) hW_57
              refine lv_aload_n hx hb dX8_skims_149 rfl (lv_at hl_47 4 rfl) ?_
              refine gM_v C hW_61 (hwc hwX8) (mc qw_1481) dX8_skims_150 ?_
              refine lv_bipush (v := 8) hx hb dX8_skims_153 (by decide) ?_
              refine lv_dup2_11 hx hb dX8_skims_155 rfl rfl ?_
              refine gm_vld C hW_61 8 (by decide) (vlit (by decide)) dX8_skims_156 ?_
              refine g_top (y := w_59 (8)) (congrFun rd_out _) ?_
              refine lv_iload_n hx hb dX8_skims_157 rfl (lv_at hl_47 2 rfl) ?_
              refine lv_iadd hx hb dX8_skims_158 ?_
              refine gm_vst C hW_61 hS_58 8 (by decide) (vlit (by decide)) dX8_skims_159 (fun H_62 locs_63 hW_64 hS_65 => ?_)
              obtain ⟨w_66, ew_66⟩ : ∃ Z9, Z9 = upd w_59 (8) ((w_59 (8)) + v_21) := ⟨_, rfl⟩
              have kn_67 : w_66 ((9 + 6 * f_10) + 3) = 0 := by rw [ew_66]; exact (pk_un (by omega)).trans kn_60
              have hW_68 : Wd G (setRow (setRow X 15 (X.1 15)) 16 w_66) H_62 := Wd.cast (by rw [ew_66]; exact st_out) hW_64
              refine lv_aload_n hx hb dX8_skims_160 rfl (lv_at hl_47 4 rfl) ?_
              refine gM_v C hW_68 (hwc hwX8) (mc qw_1481) dX8_skims_161 ?_
              refine lv_iconst (v := 5) hx hb dX8_skims_164 (by decide) ?_
              refine lv_iload hx hb dX8_skims_165 (lv_at hl_47 1 rfl) ?_
              refine lv_iadd hx hb dX8_skims_167 ?_
              refine g_top (y := 5) (by decide) ?_
              refine lv_dup2_11 hx hb dX8_skims_168 rfl rfl ?_
              refine gm_vld C hW_68 5 (by decide) (vlit (by decide)) dX8_skims_169 ?_
              refine g_top (y := w_66 (5)) (congrFun rd_out _) ?_
              refine lv_iload hx hb dX8_skims_170 (lv_at hl_47 0 rfl) ?_
              refine lv_iadd hx hb dX8_skims_172 ?_
              refine gm_vst C hW_68 hS_65 5 (by decide) (vlit (by decide)) dX8_skims_173 (fun H_69 locs_70 hW_71 hS_72 => ?_)
              obtain ⟨w_73, ew_73⟩ : ∃ Z9, Z9 = upd w_66 (5) ((w_66 (5)) + v_45) := ⟨_, rfl⟩
              have kn_74 : w_73 ((9 + 6 * f_10) + 3) = 0 := by rw [ew_73]; exact (pk_un (by omega)).trans kn_67
              have hW_75 : Wd G (setRow (setRow X 15 (X.1 15)) 16 w_73) H_69 := Wd.cast (by rw [ew_73]; exact st_out) hW_71
              refine lv_iload_n hx hb dX8_skims_174 rfl (lv_at hl_47 2 rfl) ?_
              refine lv_iload hx hb dX8_skims_175 (lv_at hl_47 0 rfl) ?_
              refine lv_iadd hx hb dX8_skims_177 ?_
              exact g_iret C hr hlk hW_75 hS_72 dX8_skims_178 (by subst ew_73; subst ew_66; subst ew_59; subst ew_52; subst ev_45; subst ev_21; exact ⟨(by first | rfl | (simp only [oM_skims, clf (show f_10 < 2 ^ 31 by omega), b_9, b_26, b_35, b_38, b_41, b_44, if_true, if_false]; first | done | rfl)), (by first | rfl | (simp only [oM_skims, clf (show f_10 < 2 ^ 31 by omega), b_9, b_26, b_35, b_38, b_41, b_44, if_true, if_false]; first | done | rfl))⟩)
            · refine lv_iload_n hx hb dX8_skims_109 rfl (lv_at hl_43 2 rfl) ?_
              refine lv_iconst (v := 4) hx hb dX8_skims_110 (by decide) ?_
              refine lv_idiv hx hb dX8_skims_111 (by decide) ?_
              refine lv_goto (tgt := 124) hx hb dX8_skims_112 (by decide) ?_
              refine lv_topi (fun v_76 ev_76 => ?_)
              refine lv_istore (lv' := [(5, .int v_76), (4, .int 0), (3, .int v_21), (2, .int (nI (9 + 6 * f_10))), (0, .ref (ad G 723)), (1, .int (nI f_10))]) hx hb dX8_skims_124 hl_43 (by decide) rfl (fun ls_77 hl_78 => ?_)
              refine lv_aload_n hx hb dX8_skims_126 rfl (lv_at hl_78 4 rfl) ?_
              refine gM_v C hW_32 (hwc hwX8) (mc qw_1481) dX8_skims_127 ?_
              refine lv_iload_n hx hb dX8_skims_130 rfl (lv_at hl_78 3 rfl) ?_
              refine lv_iconst (v := 3) hx hb dX8_skims_131 (by decide) ?_
              refine lv_iadd hx hb dX8_skims_132 ?_
              refine g_top (y := nI ((9 + 6 * f_10) + 3)) (nI_add (9 + 6 * f_10) 3) ?_
              refine lv_iconst (v := 0) hx hb dX8_skims_133 (by decide) ?_
              refine gm_vst C hW_32 hS_33 ((9 + 6 * f_10) + 3) (nI_clamp (by omega)) (vp_in_nI (show (9 + 6 * f_10) + 3 < 128 by omega) (by decide)) dX8_skims_134 (fun H_79 locs_80 hW_81 hS_82 => ?_)
              obtain ⟨w_83, ew_83⟩ : ∃ Z9, Z9 = upd (X.1 16) ((9 + 6 * f_10) + 3) 0 := ⟨_, rfl⟩
              have kn_84 : w_83 ((9 + 6 * f_10) + 3) = 0 := by rw [ew_83]; exact pk_us
              have hW_85 : Wd G (setRow (setRow X 15 (X.1 15)) 16 w_83) H_79 := Wd.cast (by rw [ew_83]; exact st_out) hW_81
              refine lv_aload_n hx hb dX8_skims_135 rfl (lv_at hl_78 4 rfl) ?_
              refine gM_v C hW_85 (hwc hwX8) (mc qw_1481) dX8_skims_136 ?_
              refine lv_iload_n hx hb dX8_skims_139 rfl (lv_at hl_78 3 rfl) ?_
              refine lv_iload hx hb dX8_skims_140 (lv_at hl_78 1 rfl) ?_
              refine lv_iadd hx hb dX8_skims_142 ?_
              refine g_top (y := (nI (9 + 6 * f_10))) (Int32.add_zero _) ?_
              refine lv_dup2_11 hx hb dX8_skims_143 rfl rfl ?_
              refine gm_vld C hW_85 (9 + 6 * f_10) (nI_clamp (by omega)) (vp_in_nI (show 9 + 6 * f_10 < 128 by omega) (by decide)) dX8_skims_144 ?_
              refine g_top (y := w_83 (9 + 6 * f_10)) (congrFun rd_out _) ?_
              refine lv_iload hx hb dX8_skims_145 (lv_at hl_78 0 rfl) ?_
              refine lv_isub hx hb dX8_skims_147 ?_
              refine gm_vst C hW_85 hS_82 (9 + 6 * f_10) (nI_clamp (by omega)) (vp_in_nI (show 9 + 6 * f_10 < 128 by omega) (by decide)) dX8_skims_148 (fun H_86 locs_87 hW_88 hS_89 => ?_)
              obtain ⟨w_90, ew_90⟩ : ∃ Z9, Z9 = upd w_83 (9 + 6 * f_10) ((w_83 (9 + 6 * f_10)) - v_76) := ⟨_, rfl⟩
              have kn_91 : w_90 ((9 + 6 * f_10) + 3) = 0 := by rw [ew_90]; exact (pk_un (by omega)).trans kn_84
              have hW_92 : Wd G (setRow (setRow X 15 (X.1 15)) 16 w_90) H_86 := Wd.cast (by rw [ew_90]; exact st_out) hW_88
              refine lv_aload_n hx hb dX8_skims_149 rfl (lv_at hl_78 4 rfl) ?_
              refine gM_v C hW_92 (hwc hwX8) (mc qw_1481) dX8_skims_150 ?_
              refine lv_bipush (v := 8) hx hb dX8_skims_153 (by decide) ?_
              refine lv_dup2_11 hx hb dX8_skims_155 rfl rfl ?_
              refine gm_vld C hW_92 8 (by decide) (vlit (by decide)) dX8_skims_156 ?_
              refine g_top (y := w_90 (8)) (congrFun rd_out _) ?_
              refine lv_iload_n hx hb dX8_skims_157 rfl (lv_at hl_78 2 rfl) ?_
              refine lv_iadd hx hb dX8_skims_158 ?_
              refine gm_vst C hW_92 hS_89 8 (by decide) (vlit (by decide)) dX8_skims_159 (fun H_93 locs_94 hW_95 hS_96 => ?_)
              obtain ⟨w_97, ew_97⟩ : ∃ Z9, Z9 = upd w_90 (8) ((w_90 (8)) + v_21) := ⟨_, rfl⟩
              have kn_98 : w_97 ((9 + 6 * f_10) + 3) = 0 := by rw [ew_97]; exact (pk_un (by omega)).trans kn_91
              have hW_99 : Wd G (setRow (setRow X 15 (X.1 15)) 16 w_97) H_93 := Wd.cast (by rw [ew_97]; exact st_out) hW_95
              refine lv_aload_n hx hb dX8_skims_160 rfl (lv_at hl_78 4 rfl) ?_
              refine gM_v C hW_99 (hwc hwX8) (mc qw_1481) dX8_skims_161 ?_
              refine lv_iconst (v := 5) hx hb dX8_skims_164 (by decide) ?_
              refine lv_iload hx hb dX8_skims_165 (lv_at hl_78 1 rfl) ?_
              refine lv_iadd hx hb dX8_skims_167 ?_
              refine g_top (y := 5) (by decide) ?_
              refine lv_dup2_11 hx hb dX8_skims_168 rfl rfl ?_
              refine gm_vld C hW_99 5 (by decide) (vlit (by decide)) dX8_skims_169 ?_
              refine g_top (y := w_97 (5)) (congrFun rd_out _) ?_
              refine lv_iload hx hb dX8_skims_170 (lv_at hl_78 0 rfl) ?_
              refine lv_iadd hx hb dX8_skims_172 ?_
              refine gm_vst C hW_99 hS_96 5 (by decide) (vlit (by decide)) dX8_skims_173 (fun H_100 locs_101 hW_102 hS_103 => ?_)
              obtain ⟨w_104, ew_104⟩ : ∃ Z9, Z9 = upd w_97 (5) ((w_97 (5)) + v_76) := ⟨_, rfl⟩
              have kn_105 : w_104 ((9 + 6 * f_10) + 3) = 0 := by rw [ew_104]; exact (pk_un (by omega)).trans kn_98
              have hW_106 : Wd G (setRow (setRow X 15 (X.1 15)) 16 w_104) H_100 := Wd.cast (by rw [ew_104]; exact st_out) hW_102
              refine lv_iload_n hx hb dX8_skims_174 rfl (lv_at hl_78 2 rfl) ?_
              refine lv_iload hx hb dX8_skims_175 (lv_at hl_78 0 rfl) ?_
              refine lv_iadd hx hb dX8_skims_177 ?_
              exact g_iret C hr hlk hW_106 hS_103 dX8_skims_178 (by subst ew_104; subst ew_97; subst ew_90; subst ew_83; subst ev_76; subst ev_21; exact ⟨(by first | rfl | (simp only [oM_skims, clf (show f_10 < 2 ^ 31 by omega), b_9, b_26, b_35, b_38, b_41, b_44, if_true, if_false]; first | done | rfl)), (by first | rfl | (simp only [oM_skims, clf (show f_10 < 2 ^ 31 by omega), b_9, b_26, b_35, b_38, b_41, b_44, if_true, if_false]; first | done | rfl))⟩)
          · refine lv_iload hx hb dX8_skims_84 (lv_at hl_40 0 rfl) ?_
            refine lv_istore (lv' := [(4, .int 2), (5, .int 2), (3, .int v_21), (2, .int (nI (9 + 6 * f_10))), (0, .ref (ad G 723)), (1, .int (nI f_10))]) hx hb dX8_skims_86 hl_40 (by decide) rfl (fun ls_107 hl_108 => ?_)
            refine lv_iinc (v := 3) (lv' := [(5, .int 3), (4, .int 2), (3, .int v_21), (2, .int (nI (9 + 6 * f_10))), (0, .ref (ad G 723)), (1, .int (nI f_10))]) hx hb dX8_skims_88 hl_108 (k := 1) rfl (by decide) (by decide) rfl (fun ls_109 hl_110 => ?_)
            refine lv_goto (tgt := 57) hx hb dX8_skims_91 (by decide) ?_
            refine lv_iload hx hb dX8_skims_57 (lv_at hl_110 0 rfl) ?_
            refine lv_iconst (v := 3) hx hb dX8_skims_59 (by decide) ?_
            refine lv_icmp_ge (tgt := 94) hx hb dX8_skims_60 (by decide) (fun _ => ?_) (fun h9 => absurd h9 (by decide))
            refine lv_iload_n hx hb dX8_skims_94 rfl (lv_at hl_110 2 rfl) ?_
            refine lv_iconst (v := 4) hx hb dX8_skims_95 (by decide) ?_
            refine lv_idiv hx hb dX8_skims_96 (by decide) ?_
            refine lv_aload_n hx hb dX8_skims_97 rfl (lv_at hl_110 4 rfl) ?_
            refine gM_v C hW_32 (hwc hwX8) (mc qw_1481) dX8_skims_98 ?_
            refine lv_iload_n hx hb dX8_skims_101 rfl (lv_at hl_110 3 rfl) ?_
            refine lv_iload hx hb dX8_skims_102 (lv_at hl_110 1 rfl) ?_
            refine lv_iadd hx hb dX8_skims_104 ?_
            refine g_top (y := nI ((9 + 6 * f_10) + 2)) (nI_add (9 + 6 * f_10) 2) ?_
            refine gm_vld C hW_32 ((9 + 6 * f_10) + 2) (nI_clamp (by omega)) (vp_in_nI (show (9 + 6 * f_10) + 2 < 128 by omega) (by decide)) dX8_skims_105 ?_
            refine g_top (y := X.1 16 ((9 + 6 * f_10) + 2)) (congrFun rd_out _) ?_
            refine lv_icmp_ge (tgt := 115) hx hb dX8_skims_106 (by decide) (fun b_111 => ?_) (fun b_111 => ?_)
            · refine lv_aload_n hx hb dX8_skims_115 rfl (lv_at hl_110 4 rfl) ?_
              refine gM_v C hW_32 (hwc hwX8) (mc qw_1481) dX8_skims_116 ?_
              refine lv_iload_n hx hb dX8_skims_119 rfl (lv_at hl_110 3 rfl) ?_
              refine lv_iload hx hb dX8_skims_120 (lv_at hl_110 1 rfl) ?_
              refine lv_iadd hx hb dX8_skims_122 ?_
              refine g_top (y := nI ((9 + 6 * f_10) + 2)) (nI_add (9 + 6 * f_10) 2) ?_
              refine gm_vld C hW_32 ((9 + 6 * f_10) + 2) (nI_clamp (by omega)) (vp_in_nI (show (9 + 6 * f_10) + 2 < 128 by omega) (by decide)) dX8_skims_123 ?_
              refine g_top (y := X.1 16 ((9 + 6 * f_10) + 2)) (congrFun rd_out _) ?_
              refine lv_topi (fun v_112 ev_112 => ?_)
              refine lv_istore (lv' := [(5, .int v_112), (4, .int 2), (3, .int v_21), (2, .int (nI (9 + 6 * f_10))), (0, .ref (ad G 723)), (1, .int (nI f_10))]) hx hb dX8_skims_124 hl_110 (by decide) rfl (fun ls_113 hl_114 => ?_)
              refine lv_aload_n hx hb dX8_skims_126 rfl (lv_at hl_114 4 rfl) ?_
              refine gM_v C hW_32 (hwc hwX8) (mc qw_1481) dX8_skims_127 ?_
              refine lv_iload_n hx hb dX8_skims_130 rfl (lv_at hl_114 3 rfl) ?_
              refine lv_iconst (v := 3) hx hb dX8_skims_131 (by decide) ?_
              refine lv_iadd hx hb dX8_skims_132 ?_
              refine g_top (y := nI ((9 + 6 * f_10) + 3)) (nI_add (9 + 6 * f_10) 3) ?_
              refine lv_iconst (v := 0) hx hb dX8_skims_133 (by decide) ?_
              refine gm_vst C hW_32 hS_33 ((9 + 6 * f_10) + 3) (nI_clamp (by omega)) (vp_in_nI (show (9 + 6 * f_10) + 3 < 128 by omega) (by decide)) dX8_skims_134 (fun H_115 locs_116 hW_117 hS_118 => ?_)
              obtain ⟨w_119, ew_119⟩ : ∃ Z9, Z9 = upd (X.1 16) ((9 + 6 * f_10) + 3) 0 := ⟨_, rfl⟩
              have kn_120 : w_119 ((9 + 6 * f_10) + 3) = 0 := by rw [ew_119]; exact pk_us
              have hW_121 : Wd G (setRow (setRow X 15 (X.1 15)) 16 w_119) H_115 := Wd.cast (by rw [ew_119]; exact st_out) hW_117
              refine lv_aload_n hx hb dX8_skims_135 rfl (lv_at hl_114 4 rfl) ?_
              refine gM_v C hW_121 (hwc hwX8) (mc qw_1481) dX8_skims_136 ?_
              refine lv_iload_n hx hb dX8_skims_139 rfl (lv_at hl_114 3 rfl) ?_
              refine lv_iload hx hb dX8_skims_140 (lv_at hl_114 1 rfl) ?_
              refine lv_iadd hx hb dX8_skims_142 ?_
              refine g_top (y := nI ((9 + 6 * f_10) + 2)) (nI_add (9 + 6 * f_10) 2) ?_
              refine lv_dup2_11 hx hb dX8_skims_143 rfl rfl ?_
              refine gm_vld C hW_121 ((9 + 6 * f_10) + 2) (nI_clamp (by omega)) (vp_in_nI (show (9 + 6 * f_10) + 2 < 128 by omega) (by decide)) dX8_skims_144 ?_
              refine g_top (y := w_119 ((9 + 6 * f_10) + 2)) (congrFun rd_out _) ?_
              refine lv_iload hx hb dX8_skims_145 (lv_at hl_114 0 rfl) ?_
              refine lv_isub hx hb dX8_skims_147 ?_
              refine gm_vst C hW_121 hS_118 ((9 + 6 * f_10) + 2) (nI_clamp (by omega)) (vp_in_nI (show (9 + 6 * f_10) + 2 < 128 by omega) (by decide)) dX8_skims_148 (fun H_122 locs_123 hW_124 hS_125 => ?_)
              obtain ⟨w_126, ew_126⟩ : ∃ Z9, Z9 = upd w_119 ((9 + 6 * f_10) + 2) ((w_119 ((9 + 6 * f_10) + 2)) - v_112) := ⟨_, rfl⟩
              have kn_127 : w_126 ((9 + 6 * f_10) + 3) = 0 := by rw [ew_126]; exact (pk_un (by omega)).trans kn_120
              have hW_128 : Wd G (setRow (setRow X 15 (X.1 15)) 16 w_126) H_122 := Wd.cast (by rw [ew_126]; exact st_out) hW_124
              refine lv_aload_n hx hb dX8_skims_149 rfl (lv_at hl_114 4 rfl) ?_
              refine gM_v C hW_128 (hwc hwX8) (mc qw_1481) dX8_skims_150 ?_
              refine lv_bipush (v := 8) hx hb dX8_skims_153 (by decide) ?_
              refine lv_dup2_11 hx hb dX8_skims_155 rfl rfl ?_
              refine gm_vld C hW_128 8 (by decide) (vlit (by decide)) dX8_skims_156 ?_
              refine g_top (y := w_126 (8)) (congrFun rd_out _) ?_
              refine lv_iload_n hx hb dX8_skims_157 rfl (lv_at hl_114 2 rfl) ?_
              refine lv_iadd hx hb dX8_skims_158 ?_
              refine gm_vst C hW_128 hS_125 8 (by decide) (vlit (by decide)) dX8_skims_159 (fun H_129 locs_130 hW_131 hS_132 => ?_)
              obtain ⟨w_133, ew_133⟩ : ∃ Z9, Z9 = upd w_126 (8) ((w_126 (8)) + v_21) := ⟨_, rfl⟩
              have kn_134 : w_133 ((9 + 6 * f_10) + 3) = 0 := by rw [ew_133]; exact (pk_un (by omega)).trans kn_127
              have hW_135 : Wd G (setRow (setRow X 15 (X.1 15)) 16 w_133) H_129 := Wd.cast (by rw [ew_133]; exact st_out) hW_131
              refine lv_aload_n hx hb dX8_skims_160 rfl (lv_at hl_114 4 rfl) ?_
              refine gM_v C hW_135 (hwc hwX8) (mc qw_1481) dX8_skims_161 ?_
              refine lv_iconst (v := 5) hx hb dX8_skims_164 (by decide) ?_
              refine lv_iload hx hb dX8_skims_165 (lv_at hl_114 1 rfl) ?_
              refine lv_iadd hx hb dX8_skims_167 ?_
              refine g_top (y := 7) (by decide) ?_
              refine lv_dup2_11 hx hb dX8_skims_168 rfl rfl ?_
              refine gm_vld C hW_135 7 (by decide) (vlit (by decide)) dX8_skims_169 ?_
              refine g_top (y := w_133 (7)) (congrFun rd_out _) ?_
              refine lv_iload hx hb dX8_skims_170 (lv_at hl_114 0 rfl) ?_
              refine lv_iadd hx hb dX8_skims_172 ?_
              refine gm_vst C hW_135 hS_132 7 (by decide) (vlit (by decide)) dX8_skims_173 (fun H_136 locs_137 hW_138 hS_139 => ?_)
              obtain ⟨w_140, ew_140⟩ : ∃ Z9, Z9 = upd w_133 (7) ((w_133 (7)) + v_112) := ⟨_, rfl⟩
              have kn_141 : w_140 ((9 + 6 * f_10) + 3) = 0 := by rw [ew_140]; exact (pk_un (by omega)).trans kn_134
              have hW_142 : Wd G (setRow (setRow X 15 (X.1 15)) 16 w_140) H_136 := Wd.cast (by rw [ew_140]; exact st_out) hW_138
              refine lv_iload_n hx hb dX8_skims_174 rfl (lv_at hl_114 2 rfl) ?_
              refine lv_iload hx hb dX8_skims_175 (lv_at hl_114 0 rfl) ?_
              refine lv_iadd hx hb dX8_skims_177 ?_
              exact g_iret C hr hlk hW_142 hS_139 dX8_skims_178 (by subst ew_140; subst ew_133; subst ew_126; subst ew_119; subst ev_112; subst ev_21; exact ⟨(by first | rfl | (simp only [oM_skims, clf (show f_10 < 2 ^ 31 by omega), b_9, b_26, b_35, b_38, b_41, b_111, if_true, if_false]; first | done | rfl)), (by first | rfl | (simp only [oM_skims, clf (show f_10 < 2 ^ 31 by omega), b_9, b_26, b_35, b_38, b_41, b_111, if_true, if_false]; first | done | rfl))⟩)
            · refine lv_iload_n hx hb dX8_skims_109 rfl (lv_at hl_110 2 rfl) ?_
              refine lv_iconst (v := 4) hx hb dX8_skims_110 (by decide) ?_
              refine lv_idiv hx hb dX8_skims_111 (by decide) ?_
              refine lv_goto (tgt := 124) hx hb dX8_skims_112 (by decide) ?_
              refine lv_topi (fun v_143 ev_143 => ?_)
              refine lv_istore (lv' := [(5, .int v_143), (4, .int 2), (3, .int v_21), (2, .int (nI (9 + 6 * f_10))), (0, .ref (ad G 723)), (1, .int (nI f_10))]) hx hb dX8_skims_124 hl_110 (by decide) rfl (fun ls_144 hl_145 => ?_)
              refine lv_aload_n hx hb dX8_skims_126 rfl (lv_at hl_145 4 rfl) ?_
              refine gM_v C hW_32 (hwc hwX8) (mc qw_1481) dX8_skims_127 ?_
              refine lv_iload_n hx hb dX8_skims_130 rfl (lv_at hl_145 3 rfl) ?_
              refine lv_iconst (v := 3) hx hb dX8_skims_131 (by decide) ?_
              refine lv_iadd hx hb dX8_skims_132 ?_
              refine g_top (y := nI ((9 + 6 * f_10) + 3)) (nI_add (9 + 6 * f_10) 3) ?_
              refine lv_iconst (v := 0) hx hb dX8_skims_133 (by decide) ?_
              refine gm_vst C hW_32 hS_33 ((9 + 6 * f_10) + 3) (nI_clamp (by omega)) (vp_in_nI (show (9 + 6 * f_10) + 3 < 128 by omega) (by decide)) dX8_skims_134 (fun H_146 locs_147 hW_148 hS_149 => ?_)
              obtain ⟨w_150, ew_150⟩ : ∃ Z9, Z9 = upd (X.1 16) ((9 + 6 * f_10) + 3) 0 := ⟨_, rfl⟩
              have kn_151 : w_150 ((9 + 6 * f_10) + 3) = 0 := by rw [ew_150]; exact pk_us
              have hW_152 : Wd G (setRow (setRow X 15 (X.1 15)) 16 w_150) H_146 := Wd.cast (by rw [ew_150]; exact st_out) hW_148
              refine lv_aload_n hx hb dX8_skims_135 rfl (lv_at hl_145 4 rfl) ?_
              refine gM_v C hW_152 (hwc hwX8) (mc qw_1481) dX8_skims_136 ?_
              refine lv_iload_n hx hb dX8_skims_139 rfl (lv_at hl_145 3 rfl) ?_
              refine lv_iload hx hb dX8_skims_140 (lv_at hl_145 1 rfl) ?_
              refine lv_iadd hx hb dX8_skims_142 ?_
              refine g_top (y := nI ((9 + 6 * f_10) + 2)) (nI_add (9 + 6 * f_10) 2) ?_
              refine lv_dup2_11 hx hb dX8_skims_143 rfl rfl ?_
              refine gm_vld C hW_152 ((9 + 6 * f_10) + 2) (nI_clamp (by omega)) (vp_in_nI (show (9 + 6 * f_10) + 2 < 128 by omega) (by decide)) dX8_skims_144 ?_
              refine g_top (y := w_150 ((9 + 6 * f_10) + 2)) (congrFun rd_out _) ?_
              refine lv_iload hx hb dX8_skims_145 (lv_at hl_145 0 rfl) ?_
              refine lv_isub hx hb dX8_skims_147 ?_
              refine gm_vst C hW_152 hS_149 ((9 + 6 * f_10) + 2) (nI_clamp (by omega)) (vp_in_nI (show (9 + 6 * f_10) + 2 < 128 by omega) (by decide)) dX8_skims_148 (fun H_153 locs_154 hW_155 hS_156 => ?_)
              obtain ⟨w_157, ew_157⟩ : ∃ Z9, Z9 = upd w_150 ((9 + 6 * f_10) + 2) ((w_150 ((9 + 6 * f_10) + 2)) - v_143) := ⟨_, rfl⟩
              have kn_158 : w_157 ((9 + 6 * f_10) + 3) = 0 := by rw [ew_157]; exact (pk_un (by omega)).trans kn_151
              have hW_159 : Wd G (setRow (setRow X 15 (X.1 15)) 16 w_157) H_153 := Wd.cast (by rw [ew_157]; exact st_out) hW_155
              refine lv_aload_n hx hb dX8_skims_149 rfl (lv_at hl_145 4 rfl) ?_
              refine gM_v C hW_159 (hwc hwX8) (mc qw_1481) dX8_skims_150 ?_
              refine lv_bipush (v := 8) hx hb dX8_skims_153 (by decide) ?_
              refine lv_dup2_11 hx hb dX8_skims_155 rfl rfl ?_
              refine gm_vld C hW_159 8 (by decide) (vlit (by decide)) dX8_skims_156 ?_
              refine g_top (y := w_157 (8)) (congrFun rd_out _) ?_
              refine lv_iload_n hx hb dX8_skims_157 rfl (lv_at hl_145 2 rfl) ?_
              refine lv_iadd hx hb dX8_skims_158 ?_
              refine gm_vst C hW_159 hS_156 8 (by decide) (vlit (by decide)) dX8_skims_159 (fun H_160 locs_161 hW_162 hS_163 => ?_)
              obtain ⟨w_164, ew_164⟩ : ∃ Z9, Z9 = upd w_157 (8) ((w_157 (8)) + v_21) := ⟨_, rfl⟩
              have kn_165 : w_164 ((9 + 6 * f_10) + 3) = 0 := by rw [ew_164]; exact (pk_un (by omega)).trans kn_158
              have hW_166 : Wd G (setRow (setRow X 15 (X.1 15)) 16 w_164) H_160 := Wd.cast (by rw [ew_164]; exact st_out) hW_162
              refine lv_aload_n hx hb dX8_skims_160 rfl (lv_at hl_145 4 rfl) ?_
              refine gM_v C hW_166 (hwc hwX8) (mc qw_1481) dX8_skims_161 ?_
              refine lv_iconst (v := 5) hx hb dX8_skims_164 (by decide) ?_
              refine lv_iload hx hb dX8_skims_165 (lv_at hl_145 1 rfl) ?_
              refine lv_iadd hx hb dX8_skims_167 ?_
              refine g_top (y := 7) (by decide) ?_
              refine lv_dup2_11 hx hb dX8_skims_168 rfl rfl ?_
              refine gm_vld C hW_166 7 (by decide) (vlit (by decide)) dX8_skims_169 ?_
              refine g_top (y := w_164 (7)) (congrFun rd_out _) ?_
              refine lv_iload hx hb dX8_skims_170 (lv_at hl_145 0 rfl) ?_
              refine lv_iadd hx hb dX8_skims_172 ?_
              refine gm_vst C hW_166 hS_163 7 (by decide) (vlit (by decide)) dX8_skims_173 (fun H_167 locs_168 hW_169 hS_170 => ?_)
              obtain ⟨w_171, ew_171⟩ : ∃ Z9, Z9 = upd w_164 (7) ((w_164 (7)) + v_143) := ⟨_, rfl⟩
              have kn_172 : w_171 ((9 + 6 * f_10) + 3) = 0 := by rw [ew_171]; exact (pk_un (by omega)).trans kn_165
              have hW_173 : Wd G (setRow (setRow X 15 (X.1 15)) 16 w_171) H_167 := Wd.cast (by rw [ew_171]; exact st_out) hW_169
              refine lv_iload_n hx hb dX8_skims_174 rfl (lv_at hl_145 2 rfl) ?_
              refine lv_iload hx hb dX8_skims_175 (lv_at hl_145 0 rfl) ?_
              refine lv_iadd hx hb dX8_skims_177 ?_
              exact g_iret C hr hlk hW_173 hS_170 dX8_skims_178 (by subst ew_171; subst ew_164; subst ew_157; subst ew_150; subst ev_143; subst ev_21; exact ⟨(by first | rfl | (simp only [oM_skims, clf (show f_10 < 2 ^ 31 by omega), b_9, b_26, b_35, b_38, b_41, b_111, if_true, if_false]; first | done | rfl)), (by first | rfl | (simp only [oM_skims, clf (show f_10 < 2 ^ 31 by omega), b_9, b_26, b_35, b_38, b_41, b_111, if_true, if_false]; first | done | rfl))⟩)
        · refine lv_iload hx hb dX8_skims_84 (lv_at hl_37 0 rfl) ?_
          refine lv_istore (lv' := [(4, .int 1), (5, .int 1), (3, .int v_21), (2, .int (nI (9 + 6 * f_10))), (0, .ref (ad G 723)), (1, .int (nI f_10))]) hx hb dX8_skims_86 hl_37 (by decide) rfl (fun ls_174 hl_175 => ?_)
          refine lv_iinc (v := 2) (lv' := [(5, .int 2), (4, .int 1), (3, .int v_21), (2, .int (nI (9 + 6 * f_10))), (0, .ref (ad G 723)), (1, .int (nI f_10))]) hx hb dX8_skims_88 hl_175 (k := 1) rfl (by decide) (by decide) rfl (fun ls_176 hl_177 => ?_)
          refine lv_goto (tgt := 57) hx hb dX8_skims_91 (by decide) ?_
          refine lv_iload hx hb dX8_skims_57 (lv_at hl_177 0 rfl) ?_
          refine lv_iconst (v := 3) hx hb dX8_skims_59 (by decide) ?_
          refine lv_icmp_ge (tgt := 94) hx hb dX8_skims_60 (by decide) (fun h9 => absurd h9 (by decide)) (fun _ => ?_)
          refine lv_aload_n hx hb dX8_skims_63 rfl (lv_at hl_177 4 rfl) ?_
          refine gM_v C hW_32 (hwc hwX8) (mc qw_1481) dX8_skims_64 ?_
          refine lv_iload_n hx hb dX8_skims_67 rfl (lv_at hl_177 3 rfl) ?_
          refine lv_iload hx hb dX8_skims_68 (lv_at hl_177 0 rfl) ?_
          refine lv_iadd hx hb dX8_skims_70 ?_
          refine g_top (y := nI ((9 + 6 * f_10) + 2)) (nI_add (9 + 6 * f_10) 2) ?_
          refine gm_vld C hW_32 ((9 + 6 * f_10) + 2) (nI_clamp (by omega)) (vp_in_nI (show (9 + 6 * f_10) + 2 < 128 by omega) (by decide)) dX8_skims_71 ?_
          refine g_top (y := X.1 16 ((9 + 6 * f_10) + 2)) (congrFun rd_out _) ?_
          refine lv_aload_n hx hb dX8_skims_72 rfl (lv_at hl_177 4 rfl) ?_
          refine gM_v C hW_32 (hwc hwX8) (mc qw_1481) dX8_skims_73 ?_
          refine lv_iload_n hx hb dX8_skims_76 rfl (lv_at hl_177 3 rfl) ?_
          refine lv_iload hx hb dX8_skims_77 (lv_at hl_177 1 rfl) ?_
          refine lv_iadd hx hb dX8_skims_79 ?_
          refine g_top (y := nI ((9 + 6 * f_10) + 1)) (nI_add (9 + 6 * f_10) 1) ?_
          refine gm_vld C hW_32 ((9 + 6 * f_10) + 1) (nI_clamp (by omega)) (vp_in_nI (show (9 + 6 * f_10) + 1 < 128 by omega) (by decide)) dX8_skims_80 ?_
          refine g_top (y := X.1 16 ((9 + 6 * f_10) + 1)) (congrFun rd_out _) ?_
          refine lv_icmp_le (tgt := 88) hx hb dX8_skims_81 (by decide) (fun b_178 => ?_) (fun b_178 => ?_)
          · refine lv_iinc (v := 3) (lv' := [(5, .int 3), (4, .int 1), (3, .int v_21), (2, .int (nI (9 + 6 * f_10))), (0, .ref (ad G 723)), (1, .int (nI f_10))]) hx hb dX8_skims_88 hl_177 (k := 0) rfl (by decide) (by decide) rfl (fun ls_179 hl_180 => ?_)
            refine lv_goto (tgt := 57) hx hb dX8_skims_91 (by decide) ?_
            refine lv_iload hx hb dX8_skims_57 (lv_at hl_180 0 rfl) ?_
            refine lv_iconst (v := 3) hx hb dX8_skims_59 (by decide) ?_
            refine lv_icmp_ge (tgt := 94) hx hb dX8_skims_60 (by decide) (fun _ => ?_) (fun h9 => absurd h9 (by decide))
            refine lv_iload_n hx hb dX8_skims_94 rfl (lv_at hl_180 2 rfl) ?_
            refine lv_iconst (v := 4) hx hb dX8_skims_95 (by decide) ?_
            refine lv_idiv hx hb dX8_skims_96 (by decide) ?_
            refine lv_aload_n hx hb dX8_skims_97 rfl (lv_at hl_180 4 rfl) ?_
            refine gM_v C hW_32 (hwc hwX8) (mc qw_1481) dX8_skims_98 ?_
            refine lv_iload_n hx hb dX8_skims_101 rfl (lv_at hl_180 3 rfl) ?_
            refine lv_iload hx hb dX8_skims_102 (lv_at hl_180 1 rfl) ?_
            refine lv_iadd hx hb dX8_skims_104 ?_
            refine g_top (y := nI ((9 + 6 * f_10) + 1)) (nI_add (9 + 6 * f_10) 1) ?_
            refine gm_vld C hW_32 ((9 + 6 * f_10) + 1) (nI_clamp (by omega)) (vp_in_nI (show (9 + 6 * f_10) + 1 < 128 by omega) (by decide)) dX8_skims_105 ?_
            refine g_top (y := X.1 16 ((9 + 6 * f_10) + 1)) (congrFun rd_out _) ?_
            refine lv_icmp_ge (tgt := 115) hx hb dX8_skims_106 (by decide) (fun b_181 => ?_) (fun b_181 => ?_)
            · refine lv_aload_n hx hb dX8_skims_115 rfl (lv_at hl_180 4 rfl) ?_
              refine gM_v C hW_32 (hwc hwX8) (mc qw_1481) dX8_skims_116 ?_
              refine lv_iload_n hx hb dX8_skims_119 rfl (lv_at hl_180 3 rfl) ?_
              refine lv_iload hx hb dX8_skims_120 (lv_at hl_180 1 rfl) ?_
              refine lv_iadd hx hb dX8_skims_122 ?_
              refine g_top (y := nI ((9 + 6 * f_10) + 1)) (nI_add (9 + 6 * f_10) 1) ?_
              refine gm_vld C hW_32 ((9 + 6 * f_10) + 1) (nI_clamp (by omega)) (vp_in_nI (show (9 + 6 * f_10) + 1 < 128 by omega) (by decide)) dX8_skims_123 ?_
              refine g_top (y := X.1 16 ((9 + 6 * f_10) + 1)) (congrFun rd_out _) ?_
              refine lv_topi (fun v_182 ev_182 => ?_)
              refine lv_istore (lv' := [(5, .int v_182), (4, .int 1), (3, .int v_21), (2, .int (nI (9 + 6 * f_10))), (0, .ref (ad G 723)), (1, .int (nI f_10))]) hx hb dX8_skims_124 hl_180 (by decide) rfl (fun ls_183 hl_184 => ?_)
              refine lv_aload_n hx hb dX8_skims_126 rfl (lv_at hl_184 4 rfl) ?_
              refine gM_v C hW_32 (hwc hwX8) (mc qw_1481) dX8_skims_127 ?_
              refine lv_iload_n hx hb dX8_skims_130 rfl (lv_at hl_184 3 rfl) ?_
              refine lv_iconst (v := 3) hx hb dX8_skims_131 (by decide) ?_
              refine lv_iadd hx hb dX8_skims_132 ?_
              refine g_top (y := nI ((9 + 6 * f_10) + 3)) (nI_add (9 + 6 * f_10) 3) ?_
              refine lv_iconst (v := 0) hx hb dX8_skims_133 (by decide) ?_
              refine gm_vst C hW_32 hS_33 ((9 + 6 * f_10) + 3) (nI_clamp (by omega)) (vp_in_nI (show (9 + 6 * f_10) + 3 < 128 by omega) (by decide)) dX8_skims_134 (fun H_185 locs_186 hW_187 hS_188 => ?_)
              obtain ⟨w_189, ew_189⟩ : ∃ Z9, Z9 = upd (X.1 16) ((9 + 6 * f_10) + 3) 0 := ⟨_, rfl⟩
              have kn_190 : w_189 ((9 + 6 * f_10) + 3) = 0 := by rw [ew_189]; exact pk_us
              have hW_191 : Wd G (setRow (setRow X 15 (X.1 15)) 16 w_189) H_185 := Wd.cast (by rw [ew_189]; exact st_out) hW_187
              refine lv_aload_n hx hb dX8_skims_135 rfl (lv_at hl_184 4 rfl) ?_
              refine gM_v C hW_191 (hwc hwX8) (mc qw_1481) dX8_skims_136 ?_
              refine lv_iload_n hx hb dX8_skims_139 rfl (lv_at hl_184 3 rfl) ?_
              refine lv_iload hx hb dX8_skims_140 (lv_at hl_184 1 rfl) ?_
              refine lv_iadd hx hb dX8_skims_142 ?_
              refine g_top (y := nI ((9 + 6 * f_10) + 1)) (nI_add (9 + 6 * f_10) 1) ?_
              refine lv_dup2_11 hx hb dX8_skims_143 rfl rfl ?_
              refine gm_vld C hW_191 ((9 + 6 * f_10) + 1) (nI_clamp (by omega)) (vp_in_nI (show (9 + 6 * f_10) + 1 < 128 by omega) (by decide)) dX8_skims_144 ?_
              refine g_top (y := w_189 ((9 + 6 * f_10) + 1)) (congrFun rd_out _) ?_
              refine lv_iload hx hb dX8_skims_145 (lv_at hl_184 0 rfl) ?_
              refine lv_isub hx hb dX8_skims_147 ?_
              refine gm_vst C hW_191 hS_188 ((9 + 6 * f_10) + 1) (nI_clamp (by omega)) (vp_in_nI (show (9 + 6 * f_10) + 1 < 128 by omega) (by decide)) dX8_skims_148 (fun H_192 locs_193 hW_194 hS_195 => ?_)
              obtain ⟨w_196, ew_196⟩ : ∃ Z9, Z9 = upd w_189 ((9 + 6 * f_10) + 1) ((w_189 ((9 + 6 * f_10) + 1)) - v_182) := ⟨_, rfl⟩
              have kn_197 : w_196 ((9 + 6 * f_10) + 3) = 0 := by rw [ew_196]; exact (pk_un (by omega)).trans kn_190
              have hW_198 : Wd G (setRow (setRow X 15 (X.1 15)) 16 w_196) H_192 := Wd.cast (by rw [ew_196]; exact st_out) hW_194
              refine lv_aload_n hx hb dX8_skims_149 rfl (lv_at hl_184 4 rfl) ?_
              refine gM_v C hW_198 (hwc hwX8) (mc qw_1481) dX8_skims_150 ?_
              refine lv_bipush (v := 8) hx hb dX8_skims_153 (by decide) ?_
              refine lv_dup2_11 hx hb dX8_skims_155 rfl rfl ?_
              refine gm_vld C hW_198 8 (by decide) (vlit (by decide)) dX8_skims_156 ?_
              refine g_top (y := w_196 (8)) (congrFun rd_out _) ?_
              refine lv_iload_n hx hb dX8_skims_157 rfl (lv_at hl_184 2 rfl) ?_
              refine lv_iadd hx hb dX8_skims_158 ?_
              refine gm_vst C hW_198 hS_195 8 (by decide) (vlit (by decide)) dX8_skims_159 (fun H_199 locs_200 hW_201 hS_202 => ?_)
              obtain ⟨w_203, ew_203⟩ : ∃ Z9, Z9 = upd w_196 (8) ((w_196 (8)) + v_21) := ⟨_, rfl⟩
              have kn_204 : w_203 ((9 + 6 * f_10) + 3) = 0 := by rw [ew_203]; exact (pk_un (by omega)).trans kn_197
              have hW_205 : Wd G (setRow (setRow X 15 (X.1 15)) 16 w_203) H_199 := Wd.cast (by rw [ew_203]; exact st_out) hW_201
              refine lv_aload_n hx hb dX8_skims_160 rfl (lv_at hl_184 4 rfl) ?_
              refine gM_v C hW_205 (hwc hwX8) (mc qw_1481) dX8_skims_161 ?_
              refine lv_iconst (v := 5) hx hb dX8_skims_164 (by decide) ?_
              refine lv_iload hx hb dX8_skims_165 (lv_at hl_184 1 rfl) ?_
              refine lv_iadd hx hb dX8_skims_167 ?_
              refine g_top (y := 6) (by decide) ?_
              refine lv_dup2_11 hx hb dX8_skims_168 rfl rfl ?_
              refine gm_vld C hW_205 6 (by decide) (vlit (by decide)) dX8_skims_169 ?_
              refine g_top (y := w_203 (6)) (congrFun rd_out _) ?_
              refine lv_iload hx hb dX8_skims_170 (lv_at hl_184 0 rfl) ?_
              refine lv_iadd hx hb dX8_skims_172 ?_
              refine gm_vst C hW_205 hS_202 6 (by decide) (vlit (by decide)) dX8_skims_173 (fun H_206 locs_207 hW_208 hS_209 => ?_)
              obtain ⟨w_210, ew_210⟩ : ∃ Z9, Z9 = upd w_203 (6) ((w_203 (6)) + v_182) := ⟨_, rfl⟩
              have kn_211 : w_210 ((9 + 6 * f_10) + 3) = 0 := by rw [ew_210]; exact (pk_un (by omega)).trans kn_204
              have hW_212 : Wd G (setRow (setRow X 15 (X.1 15)) 16 w_210) H_206 := Wd.cast (by rw [ew_210]; exact st_out) hW_208
              refine lv_iload_n hx hb dX8_skims_174 rfl (lv_at hl_184 2 rfl) ?_
              refine lv_iload hx hb dX8_skims_175 (lv_at hl_184 0 rfl) ?_
              refine lv_iadd hx hb dX8_skims_177 ?_
              exact g_iret C hr hlk hW_212 hS_209 dX8_skims_178 (by subst ew_210; subst ew_203; subst ew_196; subst ew_189; subst ev_182; subst ev_21; exact ⟨(by first | rfl | (simp only [oM_skims, clf (show f_10 < 2 ^ 31 by omega), b_9, b_26, b_35, b_38, b_178, b_181, if_true, if_false]; first | done | rfl)), (by first | rfl | (simp only [oM_skims, clf (show f_10 < 2 ^ 31 by omega), b_9, b_26, b_35, b_38, b_178, b_181, if_true, if_false]; first | done | rfl))⟩)
            · refine lv_iload_n hx hb dX8_skims_109 rfl (lv_at hl_180 2 rfl) ?_
              refine lv_iconst (v := 4) hx hb dX8_skims_110 (by decide) ?_
              refine lv_idiv hx hb dX8_skims_111 (by decide) ?_
              refine lv_goto (tgt := 124) hx hb dX8_skims_112 (by decide) ?_
              refine lv_topi (fun v_213 ev_213 => ?_)
              refine lv_istore (lv' := [(5, .int v_213), (4, .int 1), (3, .int v_21), (2, .int (nI (9 + 6 * f_10))), (0, .ref (ad G 723)), (1, .int (nI f_10))]) hx hb dX8_skims_124 hl_180 (by decide) rfl (fun ls_214 hl_215 => ?_)
              refine lv_aload_n hx hb dX8_skims_126 rfl (lv_at hl_215 4 rfl) ?_
              refine gM_v C hW_32 (hwc hwX8) (mc qw_1481) dX8_skims_127 ?_
              refine lv_iload_n hx hb dX8_skims_130 rfl (lv_at hl_215 3 rfl) ?_
              refine lv_iconst (v := 3) hx hb dX8_skims_131 (by decide) ?_
              refine lv_iadd hx hb dX8_skims_132 ?_
              refine g_top (y := nI ((9 + 6 * f_10) + 3)) (nI_add (9 + 6 * f_10) 3) ?_
              refine lv_iconst (v := 0) hx hb dX8_skims_133 (by decide) ?_
              refine gm_vst C hW_32 hS_33 ((9 + 6 * f_10) + 3) (nI_clamp (by omega)) (vp_in_nI (show (9 + 6 * f_10) + 3 < 128 by omega) (by decide)) dX8_skims_134 (fun H_216 locs_217 hW_218 hS_219 => ?_)
              obtain ⟨w_220, ew_220⟩ : ∃ Z9, Z9 = upd (X.1 16) ((9 + 6 * f_10) + 3) 0 := ⟨_, rfl⟩
              have kn_221 : w_220 ((9 + 6 * f_10) + 3) = 0 := by rw [ew_220]; exact pk_us
              have hW_222 : Wd G (setRow (setRow X 15 (X.1 15)) 16 w_220) H_216 := Wd.cast (by rw [ew_220]; exact st_out) hW_218
              refine lv_aload_n hx hb dX8_skims_135 rfl (lv_at hl_215 4 rfl) ?_
              refine gM_v C hW_222 (hwc hwX8) (mc qw_1481) dX8_skims_136 ?_
              refine lv_iload_n hx hb dX8_skims_139 rfl (lv_at hl_215 3 rfl) ?_
              refine lv_iload hx hb dX8_skims_140 (lv_at hl_215 1 rfl) ?_
              refine lv_iadd hx hb dX8_skims_142 ?_
              refine g_top (y := nI ((9 + 6 * f_10) + 1)) (nI_add (9 + 6 * f_10) 1) ?_
              refine lv_dup2_11 hx hb dX8_skims_143 rfl rfl ?_
              refine gm_vld C hW_222 ((9 + 6 * f_10) + 1) (nI_clamp (by omega)) (vp_in_nI (show (9 + 6 * f_10) + 1 < 128 by omega) (by decide)) dX8_skims_144 ?_
              refine g_top (y := w_220 ((9 + 6 * f_10) + 1)) (congrFun rd_out _) ?_
              refine lv_iload hx hb dX8_skims_145 (lv_at hl_215 0 rfl) ?_
              refine lv_isub hx hb dX8_skims_147 ?_
              refine gm_vst C hW_222 hS_219 ((9 + 6 * f_10) + 1) (nI_clamp (by omega)) (vp_in_nI (show (9 + 6 * f_10) + 1 < 128 by omega) (by decide)) dX8_skims_148 (fun H_223 locs_224 hW_225 hS_226 => ?_)
              obtain ⟨w_227, ew_227⟩ : ∃ Z9, Z9 = upd w_220 ((9 + 6 * f_10) + 1) ((w_220 ((9 + 6 * f_10) + 1)) - v_213) := ⟨_, rfl⟩
              have kn_228 : w_227 ((9 + 6 * f_10) + 3) = 0 := by rw [ew_227]; exact (pk_un (by omega)).trans kn_221
              have hW_229 : Wd G (setRow (setRow X 15 (X.1 15)) 16 w_227) H_223 := Wd.cast (by rw [ew_227]; exact st_out) hW_225
              refine lv_aload_n hx hb dX8_skims_149 rfl (lv_at hl_215 4 rfl) ?_
              refine gM_v C hW_229 (hwc hwX8) (mc qw_1481) dX8_skims_150 ?_
              refine lv_bipush (v := 8) hx hb dX8_skims_153 (by decide) ?_
              refine lv_dup2_11 hx hb dX8_skims_155 rfl rfl ?_
              refine gm_vld C hW_229 8 (by decide) (vlit (by decide)) dX8_skims_156 ?_
              refine g_top (y := w_227 (8)) (congrFun rd_out _) ?_
              refine lv_iload_n hx hb dX8_skims_157 rfl (lv_at hl_215 2 rfl) ?_
              refine lv_iadd hx hb dX8_skims_158 ?_
              refine gm_vst C hW_229 hS_226 8 (by decide) (vlit (by decide)) dX8_skims_159 (fun H_230 locs_231 hW_232 hS_233 => ?_)
              obtain ⟨w_234, ew_234⟩ : ∃ Z9, Z9 = upd w_227 (8) ((w_227 (8)) + v_21) := ⟨_, rfl⟩
              have kn_235 : w_234 ((9 + 6 * f_10) + 3) = 0 := by rw [ew_234]; exact (pk_un (by omega)).trans kn_228
              have hW_236 : Wd G (setRow (setRow X 15 (X.1 15)) 16 w_234) H_230 := Wd.cast (by rw [ew_234]; exact st_out) hW_232
              refine lv_aload_n hx hb dX8_skims_160 rfl (lv_at hl_215 4 rfl) ?_
              refine gM_v C hW_236 (hwc hwX8) (mc qw_1481) dX8_skims_161 ?_
              refine lv_iconst (v := 5) hx hb dX8_skims_164 (by decide) ?_
              refine lv_iload hx hb dX8_skims_165 (lv_at hl_215 1 rfl) ?_
              refine lv_iadd hx hb dX8_skims_167 ?_
              refine g_top (y := 6) (by decide) ?_
              refine lv_dup2_11 hx hb dX8_skims_168 rfl rfl ?_
              refine gm_vld C hW_236 6 (by decide) (vlit (by decide)) dX8_skims_169 ?_
              refine g_top (y := w_234 (6)) (congrFun rd_out _) ?_
              refine lv_iload hx hb dX8_skims_170 (lv_at hl_215 0 rfl) ?_
              refine lv_iadd hx hb dX8_skims_172 ?_
              refine gm_vst C hW_236 hS_233 6 (by decide) (vlit (by decide)) dX8_skims_173 (fun H_237 locs_238 hW_239 hS_240 => ?_)
              obtain ⟨w_241, ew_241⟩ : ∃ Z9, Z9 = upd w_234 (6) ((w_234 (6)) + v_213) := ⟨_, rfl⟩
              have kn_242 : w_241 ((9 + 6 * f_10) + 3) = 0 := by rw [ew_241]; exact (pk_un (by omega)).trans kn_235
              have hW_243 : Wd G (setRow (setRow X 15 (X.1 15)) 16 w_241) H_237 := Wd.cast (by rw [ew_241]; exact st_out) hW_239
              refine lv_iload_n hx hb dX8_skims_174 rfl (lv_at hl_215 2 rfl) ?_
              refine lv_iload hx hb dX8_skims_175 (lv_at hl_215 0 rfl) ?_
              refine lv_iadd hx hb dX8_skims_177 ?_
              exact g_iret C hr hlk hW_243 hS_240 dX8_skims_178 (by subst ew_241; subst ew_234; subst ew_227; subst ew_220; subst ev_213; subst ev_21; exact ⟨(by first | rfl | (simp only [oM_skims, clf (show f_10 < 2 ^ 31 by omega), b_9, b_26, b_35, b_38, b_178, b_181, if_true, if_false]; first | done | rfl)), (by first | rfl | (simp only [oM_skims, clf (show f_10 < 2 ^ 31 by omega), b_9, b_26, b_35, b_38, b_178, b_181, if_true, if_false]; first | done | rfl))⟩)
          · refine lv_iload hx hb dX8_skims_84 (lv_at hl_177 0 rfl) ?_
            refine lv_istore (lv' := [(4, .int 2), (5, .int 2), (3, .int v_21), (2, .int (nI (9 + 6 * f_10))), (0, .ref (ad G 723)), (1, .int (nI f_10))]) hx hb dX8_skims_86 hl_177 (by decide) rfl (fun ls_244 hl_245 => ?_)
            refine lv_iinc (v := 3) (lv' := [(5, .int 3), (4, .int 2), (3, .int v_21), (2, .int (nI (9 + 6 * f_10))), (0, .ref (ad G 723)), (1, .int (nI f_10))]) hx hb dX8_skims_88 hl_245 (k := 1) rfl (by decide) (by decide) rfl (fun ls_246 hl_247 => ?_)
            refine lv_goto (tgt := 57) hx hb dX8_skims_91 (by decide) ?_
            refine lv_iload hx hb dX8_skims_57 (lv_at hl_247 0 rfl) ?_
            refine lv_iconst (v := 3) hx hb dX8_skims_59 (by decide) ?_
            refine lv_icmp_ge (tgt := 94) hx hb dX8_skims_60 (by decide) (fun _ => ?_) (fun h9 => absurd h9 (by decide))
            refine lv_iload_n hx hb dX8_skims_94 rfl (lv_at hl_247 2 rfl) ?_
            refine lv_iconst (v := 4) hx hb dX8_skims_95 (by decide) ?_
            refine lv_idiv hx hb dX8_skims_96 (by decide) ?_
            refine lv_aload_n hx hb dX8_skims_97 rfl (lv_at hl_247 4 rfl) ?_
            refine gM_v C hW_32 (hwc hwX8) (mc qw_1481) dX8_skims_98 ?_
            refine lv_iload_n hx hb dX8_skims_101 rfl (lv_at hl_247 3 rfl) ?_
            refine lv_iload hx hb dX8_skims_102 (lv_at hl_247 1 rfl) ?_
            refine lv_iadd hx hb dX8_skims_104 ?_
            refine g_top (y := nI ((9 + 6 * f_10) + 2)) (nI_add (9 + 6 * f_10) 2) ?_
            refine gm_vld C hW_32 ((9 + 6 * f_10) + 2) (nI_clamp (by omega)) (vp_in_nI (show (9 + 6 * f_10) + 2 < 128 by omega) (by decide)) dX8_skims_105 ?_
            refine g_top (y := X.1 16 ((9 + 6 * f_10) + 2)) (congrFun rd_out _) ?_
            refine lv_icmp_ge (tgt := 115) hx hb dX8_skims_106 (by decide) (fun b_248 => ?_) (fun b_248 => ?_)
            · refine lv_aload_n hx hb dX8_skims_115 rfl (lv_at hl_247 4 rfl) ?_
              refine gM_v C hW_32 (hwc hwX8) (mc qw_1481) dX8_skims_116 ?_
              refine lv_iload_n hx hb dX8_skims_119 rfl (lv_at hl_247 3 rfl) ?_
              refine lv_iload hx hb dX8_skims_120 (lv_at hl_247 1 rfl) ?_
              refine lv_iadd hx hb dX8_skims_122 ?_
              refine g_top (y := nI ((9 + 6 * f_10) + 2)) (nI_add (9 + 6 * f_10) 2) ?_
              refine gm_vld C hW_32 ((9 + 6 * f_10) + 2) (nI_clamp (by omega)) (vp_in_nI (show (9 + 6 * f_10) + 2 < 128 by omega) (by decide)) dX8_skims_123 ?_
              refine g_top (y := X.1 16 ((9 + 6 * f_10) + 2)) (congrFun rd_out _) ?_
              refine lv_topi (fun v_249 ev_249 => ?_)
              refine lv_istore (lv' := [(5, .int v_249), (4, .int 2), (3, .int v_21), (2, .int (nI (9 + 6 * f_10))), (0, .ref (ad G 723)), (1, .int (nI f_10))]) hx hb dX8_skims_124 hl_247 (by decide) rfl (fun ls_250 hl_251 => ?_)
              refine lv_aload_n hx hb dX8_skims_126 rfl (lv_at hl_251 4 rfl) ?_
              refine gM_v C hW_32 (hwc hwX8) (mc qw_1481) dX8_skims_127 ?_
              refine lv_iload_n hx hb dX8_skims_130 rfl (lv_at hl_251 3 rfl) ?_
              refine lv_iconst (v := 3) hx hb dX8_skims_131 (by decide) ?_
              refine lv_iadd hx hb dX8_skims_132 ?_
              refine g_top (y := nI ((9 + 6 * f_10) + 3)) (nI_add (9 + 6 * f_10) 3) ?_
              refine lv_iconst (v := 0) hx hb dX8_skims_133 (by decide) ?_
              refine gm_vst C hW_32 hS_33 ((9 + 6 * f_10) + 3) (nI_clamp (by omega)) (vp_in_nI (show (9 + 6 * f_10) + 3 < 128 by omega) (by decide)) dX8_skims_134 (fun H_252 locs_253 hW_254 hS_255 => ?_)
              obtain ⟨w_256, ew_256⟩ : ∃ Z9, Z9 = upd (X.1 16) ((9 + 6 * f_10) + 3) 0 := ⟨_, rfl⟩
              have kn_257 : w_256 ((9 + 6 * f_10) + 3) = 0 := by rw [ew_256]; exact pk_us
              have hW_258 : Wd G (setRow (setRow X 15 (X.1 15)) 16 w_256) H_252 := Wd.cast (by rw [ew_256]; exact st_out) hW_254
              refine lv_aload_n hx hb dX8_skims_135 rfl (lv_at hl_251 4 rfl) ?_
              refine gM_v C hW_258 (hwc hwX8) (mc qw_1481) dX8_skims_136 ?_
              refine lv_iload_n hx hb dX8_skims_139 rfl (lv_at hl_251 3 rfl) ?_
              refine lv_iload hx hb dX8_skims_140 (lv_at hl_251 1 rfl) ?_
              refine lv_iadd hx hb dX8_skims_142 ?_
              refine g_top (y := nI ((9 + 6 * f_10) + 2)) (nI_add (9 + 6 * f_10) 2) ?_
              refine lv_dup2_11 hx hb dX8_skims_143 rfl rfl ?_
              refine gm_vld C hW_258 ((9 + 6 * f_10) + 2) (nI_clamp (by omega)) (vp_in_nI (show (9 + 6 * f_10) + 2 < 128 by omega) (by decide)) dX8_skims_144 ?_
              refine g_top (y := w_256 ((9 + 6 * f_10) + 2)) (congrFun rd_out _) ?_
              refine lv_iload hx hb dX8_skims_145 (lv_at hl_251 0 rfl) ?_
              refine lv_isub hx hb dX8_skims_147 ?_
              refine gm_vst C hW_258 hS_255 ((9 + 6 * f_10) + 2) (nI_clamp (by omega)) (vp_in_nI (show (9 + 6 * f_10) + 2 < 128 by omega) (by decide)) dX8_skims_148 (fun H_259 locs_260 hW_261 hS_262 => ?_)
              obtain ⟨w_263, ew_263⟩ : ∃ Z9, Z9 = upd w_256 ((9 + 6 * f_10) + 2) ((w_256 ((9 + 6 * f_10) + 2)) - v_249) := ⟨_, rfl⟩
              have kn_264 : w_263 ((9 + 6 * f_10) + 3) = 0 := by rw [ew_263]; exact (pk_un (by omega)).trans kn_257
              have hW_265 : Wd G (setRow (setRow X 15 (X.1 15)) 16 w_263) H_259 := Wd.cast (by rw [ew_263]; exact st_out) hW_261
              refine lv_aload_n hx hb dX8_skims_149 rfl (lv_at hl_251 4 rfl) ?_
              refine gM_v C hW_265 (hwc hwX8) (mc qw_1481) dX8_skims_150 ?_
              refine lv_bipush (v := 8) hx hb dX8_skims_153 (by decide) ?_
              refine lv_dup2_11 hx hb dX8_skims_155 rfl rfl ?_
              refine gm_vld C hW_265 8 (by decide) (vlit (by decide)) dX8_skims_156 ?_
              refine g_top (y := w_263 (8)) (congrFun rd_out _) ?_
              refine lv_iload_n hx hb dX8_skims_157 rfl (lv_at hl_251 2 rfl) ?_
              refine lv_iadd hx hb dX8_skims_158 ?_
              refine gm_vst C hW_265 hS_262 8 (by decide) (vlit (by decide)) dX8_skims_159 (fun H_266 locs_267 hW_268 hS_269 => ?_)
              obtain ⟨w_270, ew_270⟩ : ∃ Z9, Z9 = upd w_263 (8) ((w_263 (8)) + v_21) := ⟨_, rfl⟩
              have kn_271 : w_270 ((9 + 6 * f_10) + 3) = 0 := by rw [ew_270]; exact (pk_un (by omega)).trans kn_264
              have hW_272 : Wd G (setRow (setRow X 15 (X.1 15)) 16 w_270) H_266 := Wd.cast (by rw [ew_270]; exact st_out) hW_268
              refine lv_aload_n hx hb dX8_skims_160 rfl (lv_at hl_251 4 rfl) ?_
              refine gM_v C hW_272 (hwc hwX8) (mc qw_1481) dX8_skims_161 ?_
              refine lv_iconst (v := 5) hx hb dX8_skims_164 (by decide) ?_
              refine lv_iload hx hb dX8_skims_165 (lv_at hl_251 1 rfl) ?_
              refine lv_iadd hx hb dX8_skims_167 ?_
              refine g_top (y := 7) (by decide) ?_
              refine lv_dup2_11 hx hb dX8_skims_168 rfl rfl ?_
              refine gm_vld C hW_272 7 (by decide) (vlit (by decide)) dX8_skims_169 ?_
              refine g_top (y := w_270 (7)) (congrFun rd_out _) ?_
              refine lv_iload hx hb dX8_skims_170 (lv_at hl_251 0 rfl) ?_
              refine lv_iadd hx hb dX8_skims_172 ?_
              refine gm_vst C hW_272 hS_269 7 (by decide) (vlit (by decide)) dX8_skims_173 (fun H_273 locs_274 hW_275 hS_276 => ?_)
              obtain ⟨w_277, ew_277⟩ : ∃ Z9, Z9 = upd w_270 (7) ((w_270 (7)) + v_249) := ⟨_, rfl⟩
              have kn_278 : w_277 ((9 + 6 * f_10) + 3) = 0 := by rw [ew_277]; exact (pk_un (by omega)).trans kn_271
              have hW_279 : Wd G (setRow (setRow X 15 (X.1 15)) 16 w_277) H_273 := Wd.cast (by rw [ew_277]; exact st_out) hW_275
              refine lv_iload_n hx hb dX8_skims_174 rfl (lv_at hl_251 2 rfl) ?_
              refine lv_iload hx hb dX8_skims_175 (lv_at hl_251 0 rfl) ?_
              refine lv_iadd hx hb dX8_skims_177 ?_
              exact g_iret C hr hlk hW_279 hS_276 dX8_skims_178 (by subst ew_277; subst ew_270; subst ew_263; subst ew_256; subst ev_249; subst ev_21; exact ⟨(by first | rfl | (simp only [oM_skims, clf (show f_10 < 2 ^ 31 by omega), b_9, b_26, b_35, b_38, b_178, b_248, if_true, if_false]; first | done | rfl)), (by first | rfl | (simp only [oM_skims, clf (show f_10 < 2 ^ 31 by omega), b_9, b_26, b_35, b_38, b_178, b_248, if_true, if_false]; first | done | rfl))⟩)
            · refine lv_iload_n hx hb dX8_skims_109 rfl (lv_at hl_247 2 rfl) ?_
              refine lv_iconst (v := 4) hx hb dX8_skims_110 (by decide) ?_
              refine lv_idiv hx hb dX8_skims_111 (by decide) ?_
              refine lv_goto (tgt := 124) hx hb dX8_skims_112 (by decide) ?_
              refine lv_topi (fun v_280 ev_280 => ?_)
              refine lv_istore (lv' := [(5, .int v_280), (4, .int 2), (3, .int v_21), (2, .int (nI (9 + 6 * f_10))), (0, .ref (ad G 723)), (1, .int (nI f_10))]) hx hb dX8_skims_124 hl_247 (by decide) rfl (fun ls_281 hl_282 => ?_)
              refine lv_aload_n hx hb dX8_skims_126 rfl (lv_at hl_282 4 rfl) ?_
              refine gM_v C hW_32 (hwc hwX8) (mc qw_1481) dX8_skims_127 ?_
              refine lv_iload_n hx hb dX8_skims_130 rfl (lv_at hl_282 3 rfl) ?_
              refine lv_iconst (v := 3) hx hb dX8_skims_131 (by decide) ?_
              refine lv_iadd hx hb dX8_skims_132 ?_
              refine g_top (y := nI ((9 + 6 * f_10) + 3)) (nI_add (9 + 6 * f_10) 3) ?_
              refine lv_iconst (v := 0) hx hb dX8_skims_133 (by decide) ?_
              refine gm_vst C hW_32 hS_33 ((9 + 6 * f_10) + 3) (nI_clamp (by omega)) (vp_in_nI (show (9 + 6 * f_10) + 3 < 128 by omega) (by decide)) dX8_skims_134 (fun H_283 locs_284 hW_285 hS_286 => ?_)
              obtain ⟨w_287, ew_287⟩ : ∃ Z9, Z9 = upd (X.1 16) ((9 + 6 * f_10) + 3) 0 := ⟨_, rfl⟩
              have kn_288 : w_287 ((9 + 6 * f_10) + 3) = 0 := by rw [ew_287]; exact pk_us
              have hW_289 : Wd G (setRow (setRow X 15 (X.1 15)) 16 w_287) H_283 := Wd.cast (by rw [ew_287]; exact st_out) hW_285
              refine lv_aload_n hx hb dX8_skims_135 rfl (lv_at hl_282 4 rfl) ?_
              refine gM_v C hW_289 (hwc hwX8) (mc qw_1481) dX8_skims_136 ?_
              refine lv_iload_n hx hb dX8_skims_139 rfl (lv_at hl_282 3 rfl) ?_
              refine lv_iload hx hb dX8_skims_140 (lv_at hl_282 1 rfl) ?_
              refine lv_iadd hx hb dX8_skims_142 ?_
              refine g_top (y := nI ((9 + 6 * f_10) + 2)) (nI_add (9 + 6 * f_10) 2) ?_
              refine lv_dup2_11 hx hb dX8_skims_143 rfl rfl ?_
              refine gm_vld C hW_289 ((9 + 6 * f_10) + 2) (nI_clamp (by omega)) (vp_in_nI (show (9 + 6 * f_10) + 2 < 128 by omega) (by decide)) dX8_skims_144 ?_
              refine g_top (y := w_287 ((9 + 6 * f_10) + 2)) (congrFun rd_out _) ?_
              refine lv_iload hx hb dX8_skims_145 (lv_at hl_282 0 rfl) ?_
              refine lv_isub hx hb dX8_skims_147 ?_
              refine gm_vst C hW_289 hS_286 ((9 + 6 * f_10) + 2) (nI_clamp (by omega)) (vp_in_nI (show (9 + 6 * f_10) + 2 < 128 by omega) (by decide)) dX8_skims_148 (fun H_290 locs_291 hW_292 hS_293 => ?_)
              obtain ⟨w_294, ew_294⟩ : ∃ Z9, Z9 = upd w_287 ((9 + 6 * f_10) + 2) ((w_287 ((9 + 6 * f_10) + 2)) - v_280) := ⟨_, rfl⟩
              have kn_295 : w_294 ((9 + 6 * f_10) + 3) = 0 := by rw [ew_294]; exact (pk_un (by omega)).trans kn_288
              have hW_296 : Wd G (setRow (setRow X 15 (X.1 15)) 16 w_294) H_290 := Wd.cast (by rw [ew_294]; exact st_out) hW_292
              refine lv_aload_n hx hb dX8_skims_149 rfl (lv_at hl_282 4 rfl) ?_
              refine gM_v C hW_296 (hwc hwX8) (mc qw_1481) dX8_skims_150 ?_
              refine lv_bipush (v := 8) hx hb dX8_skims_153 (by decide) ?_
              refine lv_dup2_11 hx hb dX8_skims_155 rfl rfl ?_
              refine gm_vld C hW_296 8 (by decide) (vlit (by decide)) dX8_skims_156 ?_
              refine g_top (y := w_294 (8)) (congrFun rd_out _) ?_
              refine lv_iload_n hx hb dX8_skims_157 rfl (lv_at hl_282 2 rfl) ?_
              refine lv_iadd hx hb dX8_skims_158 ?_
              refine gm_vst C hW_296 hS_293 8 (by decide) (vlit (by decide)) dX8_skims_159 (fun H_297 locs_298 hW_299 hS_300 => ?_)
              obtain ⟨w_301, ew_301⟩ : ∃ Z9, Z9 = upd w_294 (8) ((w_294 (8)) + v_21) := ⟨_, rfl⟩
              have kn_302 : w_301 ((9 + 6 * f_10) + 3) = 0 := by rw [ew_301]; exact (pk_un (by omega)).trans kn_295
              have hW_303 : Wd G (setRow (setRow X 15 (X.1 15)) 16 w_301) H_297 := Wd.cast (by rw [ew_301]; exact st_out) hW_299
              refine lv_aload_n hx hb dX8_skims_160 rfl (lv_at hl_282 4 rfl) ?_
              refine gM_v C hW_303 (hwc hwX8) (mc qw_1481) dX8_skims_161 ?_
              refine lv_iconst (v := 5) hx hb dX8_skims_164 (by decide) ?_
              refine lv_iload hx hb dX8_skims_165 (lv_at hl_282 1 rfl) ?_
              refine lv_iadd hx hb dX8_skims_167 ?_
              refine g_top (y := 7) (by decide) ?_
              refine lv_dup2_11 hx hb dX8_skims_168 rfl rfl ?_
              refine gm_vld C hW_303 7 (by decide) (vlit (by decide)) dX8_skims_169 ?_
              refine g_top (y := w_301 (7)) (congrFun rd_out _) ?_
              refine lv_iload hx hb dX8_skims_170 (lv_at hl_282 0 rfl) ?_
              refine lv_iadd hx hb dX8_skims_172 ?_
              refine gm_vst C hW_303 hS_300 7 (by decide) (vlit (by decide)) dX8_skims_173 (fun H_304 locs_305 hW_306 hS_307 => ?_)
              obtain ⟨w_308, ew_308⟩ : ∃ Z9, Z9 = upd w_301 (7) ((w_301 (7)) + v_280) := ⟨_, rfl⟩
              have kn_309 : w_308 ((9 + 6 * f_10) + 3) = 0 := by rw [ew_308]; exact (pk_un (by omega)).trans kn_302
              have hW_310 : Wd G (setRow (setRow X 15 (X.1 15)) 16 w_308) H_304 := Wd.cast (by rw [ew_308]; exact st_out) hW_306
              refine lv_iload_n hx hb dX8_skims_174 rfl (lv_at hl_282 2 rfl) ?_
              refine lv_iload hx hb dX8_skims_175 (lv_at hl_282 0 rfl) ?_
              refine lv_iadd hx hb dX8_skims_177 ?_
              exact g_iret C hr hlk hW_310 hS_307 dX8_skims_178 (by subst ew_308; subst ew_301; subst ew_294; subst ew_287; subst ev_280; subst ev_21; exact ⟨(by first | rfl | (simp only [oM_skims, clf (show f_10 < 2 ^ 31 by omega), b_9, b_26, b_35, b_38, b_178, b_248, if_true, if_false]; first | done | rfl)), (by first | rfl | (simp only [oM_skims, clf (show f_10 < 2 ^ 31 by omega), b_9, b_26, b_35, b_38, b_178, b_248, if_true, if_false]; first | done | rfl))⟩)
      · refine lv_aload_n hx hb dX8_skims_48 rfl (lv_at hl_25 3 rfl) ?_
        refine lv_iconst (v := 3) hx hb dX8_skims_49 (by decide) ?_
        refine g_calli (va_runV (As := [.int 3]) (rest := []) C.1 (cX8_fail_ok l G (setRow (setRow X 15 (X.1 15)) 16 (X.1 16)) 3) (cwV 1 C.1.2.2.2.2 (gV qw_1571 qw_1573 qw_31 qw_81 qw_1574) rfl rfl rfl (by decide +kernel) ⟨Nat.le_of_ble_eq_true rfl, Nat.le_of_ble_eq_true rfl⟩) (g_rModel C hW_32 hS_33 [.int 3]) rfl rfl hl_25.1 rfl (lv_room (Nat.le_of_ble_eq_true rfl)) dX8_skims_50 ⟨Nat.zero_le _, Nat.zero_le _⟩) hS_33 (fun r_312 Y_313 H_314 locs_315 hW_316 hS_317 h_311 => ?_)
        obtain ⟨h_318, h_311⟩ := h_311
        replace h_318 : r_312 = (oM_fail (X.1 15) 3).1 := h_318
        subst h_318
        replace h_311 : Y_313 = setRow (setRow (setRow X 15 (X.1 15)) 16 (X.1 16)) 15 ((oM_fail (X.1 15) 3).2) := h_311
        obtain ⟨w_319, ew_319⟩ : ∃ Z9, Z9 = (oM_fail (X.1 15) 3).2 := ⟨_, rfl⟩
        have qqw_319 : Y_313 = setRow (setRow (setRow X 15 (X.1 15)) 16 (X.1 16)) 15 w_319 := by rw [h_311, ew_319]
        have hW_320 : Wd G (setRow (setRow X 15 w_319) 16 (X.1 16)) H_314 := Wd.cast ((qqw_319).trans (congrArg (fun Z9 => Z9) (sr_in (by decide) sr_out))) hW_316
        exact g_iret C hr hlk hW_320 hS_317 dX8_skims_53 (by subst ew_319; subst ev_21; exact ⟨(by first | rfl | (simp only [oM_skims, clf (show f_10 < 2 ^ 31 by omega), b_9, b_26, eq_true b_35, if_true, if_false]; first | done | rfl)), (by first | rfl | (simp only [oM_skims, clf (show f_10 < 2 ^ 31 by omega), b_9, b_26, eq_true b_35, if_true, if_false]; first | done | rfl))⟩)
    · refine lv_aload_n hx hb dX8_skims_34 rfl (lv_at hl_25 3 rfl) ?_
      refine lv_iconst (v := 2) hx hb dX8_skims_35 (by decide) ?_
      refine g_calli (va_runV (As := [.int 2]) (rest := []) C.1 (cX8_fail_ok l G (setRow (setRow X 15 (X.1 15)) 16 (X.1 16)) 2) (cwV 1 C.1.2.2.2.2 (gV qw_1571 qw_1573 qw_31 qw_81 qw_1574) rfl rfl rfl (by decide +kernel) ⟨Nat.le_of_ble_eq_true rfl, Nat.le_of_ble_eq_true rfl⟩) (g_rModel C hW_16 hS_17 [.int 2]) rfl rfl hl_25.1 rfl (lv_room (Nat.le_of_ble_eq_true rfl)) dX8_skims_36 ⟨Nat.zero_le _, Nat.zero_le _⟩) hS_17 (fun r_322 Y_323 H_324 locs_325 hW_326 hS_327 h_321 => ?_)
      obtain ⟨h_328, h_321⟩ := h_321
      replace h_328 : r_322 = (oM_fail (X.1 15) 2).1 := h_328
      subst h_328
      replace h_321 : Y_323 = setRow (setRow (setRow X 15 (X.1 15)) 16 (X.1 16)) 15 ((oM_fail (X.1 15) 2).2) := h_321
      obtain ⟨w_329, ew_329⟩ : ∃ Z9, Z9 = (oM_fail (X.1 15) 2).2 := ⟨_, rfl⟩
      have qqw_329 : Y_323 = setRow (setRow (setRow X 15 (X.1 15)) 16 (X.1 16)) 15 w_329 := by rw [h_321, ew_329]
      have hW_330 : Wd G (setRow (setRow X 15 w_329) 16 (X.1 16)) H_324 := Wd.cast ((qqw_329).trans (congrArg (fun Z9 => Z9) (sr_in (by decide) sr_out))) hW_326
      exact g_iret C hr hlk hW_330 hS_327 dX8_skims_39 (by subst ew_329; subst ev_21; exact ⟨(by first | rfl | (simp only [oM_skims, clf (show f_10 < 2 ^ 31 by omega), b_9, eq_true b_26, if_true, if_false]; first | done | rfl)), (by first | rfl | (simp only [oM_skims, clf (show f_10 < 2 ^ 31 by omega), b_9, eq_true b_26, if_true, if_false]; first | done | rfl))⟩)
  · refine lv_aload_n hx hb dX8_skims_7 rfl (lv_at hl 0 rfl) ?_
    refine lv_iconst (v := 1) hx hb dX8_skims_8 (by decide) ?_
    refine g_calli (va_runV (As := [.int 1]) (rest := []) C.1 (cX8_fail_ok l G (setRow (setRow X 15 (X.1 15)) 16 (X.1 16)) 1) (cwV 1 C.1.2.2.2.2 (gV qw_1571 qw_1573 qw_31 qw_81 qw_1574) rfl rfl rfl (by decide +kernel) ⟨Nat.le_of_ble_eq_true rfl, Nat.le_of_ble_eq_true rfl⟩) (g_rModel C hW_6 hS_7 [.int 1]) rfl rfl hl.1 rfl (lv_room (Nat.le_of_ble_eq_true rfl)) dX8_skims_9 ⟨Nat.zero_le _, Nat.zero_le _⟩) hS_7 (fun r_332 Y_333 H_334 locs_335 hW_336 hS_337 h_331 => ?_)
    obtain ⟨h_338, h_331⟩ := h_331
    replace h_338 : r_332 = (oM_fail (X.1 15) 1).1 := h_338
    subst h_338
    replace h_331 : Y_333 = setRow (setRow (setRow X 15 (X.1 15)) 16 (X.1 16)) 15 ((oM_fail (X.1 15) 1).2) := h_331
    obtain ⟨w_339, ew_339⟩ : ∃ Z9, Z9 = (oM_fail (X.1 15) 1).2 := ⟨_, rfl⟩
    have qqw_339 : Y_333 = setRow (setRow (setRow X 15 (X.1 15)) 16 (X.1 16)) 15 w_339 := by rw [h_331, ew_339]
    have hW_340 : Wd G (setRow (setRow X 15 w_339) 16 (X.1 16)) H_334 := Wd.cast ((qqw_339).trans (congrArg (fun Z9 => Z9) (sr_in (by decide) sr_out))) hW_336
    exact g_iret C hr hlk hW_340 hS_337 dX8_skims_12 (by subst ew_339; exact ⟨(by first | rfl | (simp only [oM_skims, eq_true b_9, if_true, if_false]; first | done | rfl)), (by first | rfl | (simp only [oM_skims, eq_true b_9, if_true, if_false]; first | done | rfl))⟩)

def oM_taps (w15 : Nat → Int32) (w16 : Nat → Int32) (w20 : Nat → Int32) (w21 : Nat → Int32) (f : Int32) (la : Int32) (n : Int32) : Int32 × ((Nat → Int32) × ((Nat → Int32) × (Nat → Int32))) := if oM_isThree f = 0 then ((oM_fail (w15) 1).1, ((oM_fail (w15) 1).2), w16, w20) else (if oM_isThree la = 0 then ((oM_fail (w15) 1).1, ((oM_fail (w15) 1).2), w16, w20) else (if oM_isIn n 1 40 = 0 then ((oM_fail (w15) 2).1, ((oM_fail (w15) 2).2), w16, w20) else (if n ≤ oM_mass (w16) (9 + 6 * f.toNatClampNeg) then (if oM_isFluid (w16) (w21) (9 + 6 * f.toNatClampNeg) = 0 then ((oM_fail (w15) 4).1, ((oM_fail (w15) 4).2), w16, w20) else (if (oM_mass (w16) (27 + 5 * la.toNatClampNeg)) + n ≤ 40 then ((oM_fills ((oM_takes (w16) (w20) (9 + 6 * f.toNatClampNeg) n).1) ((oM_takes (w16) (w20) (9 + 6 * f.toNatClampNeg) n).2) la.toNatClampNeg (((oM_takes (w16) (w20) (9 + 6 * f.toNatClampNeg) n).1) ((9 + 6 * f.toNatClampNeg) + 4))).1, w15, ((oM_fills ((oM_takes (w16) (w20) (9 + 6 * f.toNatClampNeg) n).1) ((oM_takes (w16) (w20) (9 + 6 * f.toNatClampNeg) n).2) la.toNatClampNeg (((oM_takes (w16) (w20) (9 + 6 * f.toNatClampNeg) n).1) ((9 + 6 * f.toNatClampNeg) + 4))).2), ((oM_takes (w16) (w20) (9 + 6 * f.toNatClampNeg) n).2)) else ((oM_fail (w15) 5).1, ((oM_fail (w15) 5).2), w16, w20))) else ((oM_fail (w15) 3).1, ((oM_fail (w15) 3).2), w16, w20))))
set_option maxHeartbeats 4000000 in
set_option maxRecDepth 100000 in
theorem cX8_taps_ok (l : Launch) (G : GT) (X : St) (f : Int32) (la : Int32) (n : Int32) (hm : MInv (X.1 16)) : MetI l G yX8_taps (wsG yX8_taps cX8_taps 4 (some .int)) (rmz 3 65) [.ref (ad G 723), .int f, .int la, .int n] X (fun res Y => res = (oM_taps (X.1 15) (X.1 16) (X.1 20) (X.1 21) f la n).1 ∧ Y = setRow (setRow (setRow (X) 15 ((oM_taps (X.1 15) (X.1 16) (X.1 20) (X.1 21) f la n).2.1)) 16 ((oM_taps (X.1 15) (X.1 16) (X.1 20) (X.1 21) f la n).2.2.1)) 20 ((oM_taps (X.1 15) (X.1 16) (X.1 20) (X.1 21) f la n).2.2.2)) := by
  refine g_met (cc := cX8_taps) (maxL := 4) (ret := (some .int)) (by decide) rfl (Nat.le_of_ble_eq_true rfl) ?_
  intro p e s m below meth c ls C hr hlk hnm hW hl
  have hx := C.1.1
  have hb := C.1.2.1
  have hS : va_S (Ab G) s.heap s.heap [] := va_S.rf
  have hl : lv_has ls 4 [(0, .ref (ad G 723)), (1, .int f), (2, .int la), (3, .int n)] := hl
  have hW : Wd G (setRow (setRow (setRow (X) 15 (X.1 15)) 16 (X.1 16)) 20 (X.1 20)) s.heap := Wd.cast ((((sr_same (X := setRow (setRow (X) 15 (X.1 15)) 16 (X.1 16)) (r := 20) rfl).trans (sr_same (X := setRow (X) 15 (X.1 15)) (r := 16) rfl)).trans (sr_same (X := X) (r := 15) rfl))).symm hW
  refine lv_iload_n hx hb dX8_taps_0 rfl (lv_at hl 1 rfl) ?_
  refine g_calli (va_runS (As := [.int f]) (rest := []) C.1 (cX8_isThree_ok l G (setRow (setRow (setRow X 15 (X.1 15)) 16 (X.1 16)) 20 (X.1 20)) f) (va_cwS 1 C.1.2.2.2.2 (gS qw_1565 qw_1566 qw_81 qw_1567) rfl rfl rfl (by decide +kernel) ⟨Nat.le_of_ble_eq_true rfl, Nat.le_of_ble_eq_true rfl⟩) (g_pre C hW hS [.int f]) rfl rfl hl.1 rfl (lv_room (Nat.le_of_ble_eq_true rfl)) dX8_taps_1 ⟨Nat.zero_le _, Nat.zero_le _⟩) hS (fun r_2 Y_3 H_4 locs_5 hW_6 hS_7 h_1 => ?_)
  obtain ⟨h_1, hy_8⟩ := h_1
  replace hy_8 := hy_8.symm
  subst hy_8
  replace h_1 : r_2 = oM_isThree f := h_1
  subst h_1
  refine lv_if_eq (tgt := 14) hx hb dX8_taps_4 (by decide) (fun b_9 => ?_) (fun b_9 => ?_)
  · refine lv_aload_n hx hb dX8_taps_14 rfl (lv_at hl 0 rfl) ?_
    refine lv_iconst (v := 1) hx hb dX8_taps_15 (by decide) ?_
    refine g_calli (va_runV (As := [.int 1]) (rest := []) C.1 (cX8_fail_ok l G (setRow (setRow (setRow X 15 (X.1 15)) 16 (X.1 16)) 20 (X.1 20)) 1) (cwV 1 C.1.2.2.2.2 (gV qw_1571 qw_1573 qw_31 qw_81 qw_1574) rfl rfl rfl (by decide +kernel) ⟨Nat.le_of_ble_eq_true rfl, Nat.le_of_ble_eq_true rfl⟩) (g_rModel C hW_6 hS_7 [.int 1]) rfl rfl hl.1 rfl (lv_room (Nat.le_of_ble_eq_true rfl)) dX8_taps_16 ⟨Nat.zero_le _, Nat.zero_le _⟩) hS_7 (fun r_11 Y_12 H_13 locs_14 hW_15 hS_16 h_10 => ?_)
    obtain ⟨h_17, h_10⟩ := h_10
    replace h_17 : r_11 = (oM_fail (X.1 15) 1).1 := h_17
    subst h_17
    replace h_10 : Y_12 = setRow (setRow (setRow (setRow X 15 (X.1 15)) 16 (X.1 16)) 20 (X.1 20)) 15 ((oM_fail (X.1 15) 1).2) := h_10
    obtain ⟨w_18, ew_18⟩ : ∃ Z9, Z9 = (oM_fail (X.1 15) 1).2 := ⟨_, rfl⟩
    have qqw_18 : Y_12 = setRow (setRow (setRow (setRow X 15 (X.1 15)) 16 (X.1 16)) 20 (X.1 20)) 15 w_18 := by rw [h_10, ew_18]
    have hW_19 : Wd G (setRow (setRow (setRow X 15 w_18) 16 (X.1 16)) 20 (X.1 20)) H_13 := Wd.cast ((qqw_18).trans (congrArg (fun Z9 => Z9) (sr_in (by decide) (sr_in (by decide) sr_out)))) hW_15
    exact g_iret C hr hlk hW_19 hS_16 dX8_taps_19 (by subst ew_18; exact ⟨(by first | rfl | (simp only [oM_taps, eq_true b_9, if_true, if_false]; first | done | rfl)), (by first | rfl | (simp only [oM_taps, eq_true b_9, if_true, if_false]; first | done | rfl))⟩)
  · obtain ⟨f_20, hf_20, rfl⟩ := three_in b_9
    refine lv_iload_n hx hb dX8_taps_7 rfl (lv_at hl 2 rfl) ?_
    refine g_calli (va_runS (As := [.int la]) (rest := []) C.1 (cX8_isThree_ok l G (setRow (setRow (setRow X 15 (X.1 15)) 16 (X.1 16)) 20 (X.1 20)) la) (va_cwS 1 C.1.2.2.2.2 (gS qw_1565 qw_1566 qw_81 qw_1567) rfl rfl rfl (by decide +kernel) ⟨Nat.le_of_ble_eq_true rfl, Nat.le_of_ble_eq_true rfl⟩) (g_pre C hW_6 hS_7 [.int la]) rfl rfl hl.1 rfl (lv_room (Nat.le_of_ble_eq_true rfl)) dX8_taps_8 ⟨Nat.zero_le _, Nat.zero_le _⟩) hS_7 (fun r_22 Y_23 H_24 locs_25 hW_26 hS_27 h_21 => ?_)
    obtain ⟨h_21, hy_28⟩ := h_21
    replace hy_28 := hy_28.symm
    subst hy_28
    replace h_21 : r_22 = oM_isThree la := h_21
    subst h_21
    refine lv_if_ne (tgt := 20) hx hb dX8_taps_11 (by decide) (fun b_29 => ?_) (fun b_29 => ?_)
    · obtain ⟨f_30, hf_30, rfl⟩ := three_in b_29
      refine lv_iload_n hx hb dX8_taps_20 rfl (lv_at hl 3 rfl) ?_
      refine lv_iconst (v := 1) hx hb dX8_taps_21 (by decide) ?_
      refine lv_bipush (v := 40) hx hb dX8_taps_22 (by decide) ?_
      refine g_calli (va_runS (As := [.int n, .int 1, .int 40]) (rest := []) C.1 (cX8_isIn_ok l G (setRow (setRow (setRow X 15 (X.1 15)) 16 (X.1 16)) 20 (X.1 20)) n 1 40) (va_cwS 3 C.1.2.2.2.2 (gS qw_1568 qw_1569 qw_81 qw_1570) rfl rfl rfl (by decide +kernel) ⟨Nat.le_of_ble_eq_true rfl, Nat.le_of_ble_eq_true rfl⟩) (g_pre C hW_26 hS_27 [.int n, .int 1, .int 40]) rfl rfl hl.1 rfl (lv_room (Nat.le_of_ble_eq_true rfl)) dX8_taps_24 ⟨Nat.zero_le _, Nat.zero_le _⟩) hS_27 (fun r_32 Y_33 H_34 locs_35 hW_36 hS_37 h_31 => ?_)
      obtain ⟨h_31, hy_38⟩ := h_31
      replace hy_38 := hy_38.symm
      subst hy_38
      replace h_31 : r_32 = oM_isIn n 1 40 := h_31
      subst h_31
      refine lv_if_ne (tgt := 36) hx hb dX8_taps_27 (by decide) (fun b_39 => ?_) (fun b_39 => ?_)
      · obtain ⟨k0, hk01, hk02, hk03⟩ := isIn_nat (a := 1) (b := 40) (by decide) (by decide) b_39
        refine lv_aload_n hx hb dX8_taps_36 rfl (lv_at hl 0 rfl) ?_
        refine lv_iload_n hx hb dX8_taps_37 rfl (lv_at hl 1 rfl) ?_
        refine g_calli (va_runS (As := [.int (nI f_20)]) (rest := [.ref (ad G 723)]) C.1 (cX8_furnace_ok l G (setRow (setRow (setRow X 15 (X.1 15)) 16 (X.1 16)) 20 (X.1 20)) (nI f_20)) (va_cwS 1 C.1.2.2.2.2 (gS qw_1470 qw_1471 qw_81 qw_1472) rfl rfl rfl (by decide +kernel) ⟨Nat.le_of_ble_eq_true rfl, Nat.le_of_ble_eq_true rfl⟩) (g_pre C hW_36 hS_37 [.int (nI f_20)]) rfl rfl hl.1 rfl (lv_room (Nat.le_of_ble_eq_true rfl)) dX8_taps_38 ⟨Nat.zero_le _, Nat.zero_le _⟩) hS_37 (fun r_41 Y_42 H_43 locs_44 hW_45 hS_46 h_40 => ?_)
        obtain ⟨h_40, hy_47⟩ := h_40
        replace hy_47 := hy_47.symm
        subst hy_47
        replace h_40 : r_41 = oM_furnace (nI f_20) := h_40
        subst h_40
        refine g_top (y := nI (9 + 6 * f_20)) (at_furnace f_20) ?_
        refine g_calli (va_runV (As := [.int (nI (9 + 6 * f_20))]) (rest := []) C.1 (cX8_mass_ok l G (setRow (setRow (setRow X 15 (X.1 15)) 16 (X.1 16)) 20 (X.1 20)) (9 + 6 * f_20) (show 9 + 6 * f_20 + 4 ≤ 128 by omega)) (cwV 1 C.1.2.2.2.2 (gV qw_1575 qw_1577 qw_32 qw_81 qw_1578) rfl rfl rfl (by decide +kernel) ⟨Nat.le_of_ble_eq_true rfl, Nat.le_of_ble_eq_true rfl⟩) (g_rModel C hW_45 hS_46 [.int (nI (9 + 6 * f_20))]) rfl rfl hl.1 rfl (lv_room (Nat.le_of_ble_eq_true rfl)) dX8_taps_41 ⟨Nat.zero_le _, Nat.zero_le _⟩) hS_46 (fun r_49 Y_50 H_51 locs_52 hW_53 hS_54 h_48 => ?_)
        obtain ⟨h_48, hy_55⟩ := h_48
        replace hy_55 := hy_55.symm
        subst hy_55
        replace h_48 : r_49 = oM_mass (X.1 16) (9 + 6 * f_20) := h_48
        subst h_48
        refine lv_iload_n hx hb dX8_taps_44 rfl (lv_at hl 3 rfl) ?_
        refine lv_icmp_ge (tgt := 54) hx hb dX8_taps_45 (by decide) (fun b_56 => ?_) (fun b_56 => ?_)
        · refine lv_aload_n hx hb dX8_taps_54 rfl (lv_at hl 0 rfl) ?_
          refine lv_iload_n hx hb dX8_taps_55 rfl (lv_at hl 1 rfl) ?_
          refine g_calli (va_runS (As := [.int (nI f_20)]) (rest := [.ref (ad G 723)]) C.1 (cX8_furnace_ok l G (setRow (setRow (setRow X 15 (X.1 15)) 16 (X.1 16)) 20 (X.1 20)) (nI f_20)) (va_cwS 1 C.1.2.2.2.2 (gS qw_1470 qw_1471 qw_81 qw_1472) rfl rfl rfl (by decide +kernel) ⟨Nat.le_of_ble_eq_true rfl, Nat.le_of_ble_eq_true rfl⟩) (g_pre C hW_53 hS_54 [.int (nI f_20)]) rfl rfl hl.1 rfl (lv_room (Nat.le_of_ble_eq_true rfl)) dX8_taps_56 ⟨Nat.zero_le _, Nat.zero_le _⟩) hS_54 (fun r_58 Y_59 H_60 locs_61 hW_62 hS_63 h_57 => ?_)
          obtain ⟨h_57, hy_64⟩ := h_57
          replace hy_64 := hy_64.symm
          subst hy_64
          replace h_57 : r_58 = oM_furnace (nI f_20) := h_57
          subst h_57
          refine g_top (y := nI (9 + 6 * f_20)) (at_furnace f_20) ?_
          refine g_calli (va_runV (As := [.int (nI (9 + 6 * f_20))]) (rest := []) C.1 (cX8_isFluid_ok l G (setRow (setRow (setRow X 15 (X.1 15)) 16 (X.1 16)) 20 (X.1 20)) (9 + 6 * f_20) (show 9 + 6 * f_20 + 5 ≤ 128 by omega)) (cwV 1 C.1.2.2.2.2 (gV qw_1611 qw_1613 qw_39 qw_81 qw_1614) rfl rfl rfl (by decide +kernel) ⟨Nat.le_of_ble_eq_true rfl, Nat.le_of_ble_eq_true rfl⟩) (g_rModel C hW_62 hS_63 [.int (nI (9 + 6 * f_20))]) rfl rfl hl.1 rfl (lv_room (Nat.le_of_ble_eq_true rfl)) dX8_taps_59 ⟨Nat.zero_le _, Nat.zero_le _⟩) hS_63 (fun r_66 Y_67 H_68 locs_69 hW_70 hS_71 h_65 => ?_)
          obtain ⟨h_65, hy_72⟩ := h_65
          replace hy_72 := hy_72.symm
          subst hy_72
          replace h_65 : r_66 = oM_isFluid (X.1 16) (X.1 21) (9 + 6 * f_20) := h_65
          subst h_65
          refine lv_if_ne (tgt := 71) hx hb dX8_taps_62 (by decide) (fun b_73 => ?_) (fun b_73 => ?_)
          · refine lv_aload_n hx hb dX8_taps_71 rfl (lv_at hl 0 rfl) ?_
            refine lv_iload_n hx hb dX8_taps_72 rfl (lv_at hl 2 rfl) ?_
            refine g_calli (va_runS (As := [.int (nI f_30)]) (rest := [.ref (ad G 723)]) C.1 (cX8_ladle_ok l G (setRow (setRow (setRow X 15 (X.1 15)) 16 (X.1 16)) 20 (X.1 20)) (nI f_30)) (va_cwS 1 C.1.2.2.2.2 (gS qw_1473 qw_1474 qw_81 qw_1475) rfl rfl rfl (by decide +kernel) ⟨Nat.le_of_ble_eq_true rfl, Nat.le_of_ble_eq_true rfl⟩) (g_pre C hW_70 hS_71 [.int (nI f_30)]) rfl rfl hl.1 rfl (lv_room (Nat.le_of_ble_eq_true rfl)) dX8_taps_73 ⟨Nat.zero_le _, Nat.zero_le _⟩) hS_71 (fun r_75 Y_76 H_77 locs_78 hW_79 hS_80 h_74 => ?_)
            obtain ⟨h_74, hy_81⟩ := h_74
            replace hy_81 := hy_81.symm
            subst hy_81
            replace h_74 : r_75 = oM_ladle (nI f_30) := h_74
            subst h_74
            refine g_top (y := nI (27 + 5 * f_30)) (at_ladle f_30) ?_
            refine g_calli (va_runV (As := [.int (nI (27 + 5 * f_30))]) (rest := []) C.1 (cX8_mass_ok l G (setRow (setRow (setRow X 15 (X.1 15)) 16 (X.1 16)) 20 (X.1 20)) (27 + 5 * f_30) (show 27 + 5 * f_30 + 4 ≤ 128 by omega)) (cwV 1 C.1.2.2.2.2 (gV qw_1575 qw_1577 qw_32 qw_81 qw_1578) rfl rfl rfl (by decide +kernel) ⟨Nat.le_of_ble_eq_true rfl, Nat.le_of_ble_eq_true rfl⟩) (g_rModel C hW_79 hS_80 [.int (nI (27 + 5 * f_30))]) rfl rfl hl.1 rfl (lv_room (Nat.le_of_ble_eq_true rfl)) dX8_taps_76 ⟨Nat.zero_le _, Nat.zero_le _⟩) hS_80 (fun r_83 Y_84 H_85 locs_86 hW_87 hS_88 h_82 => ?_)
            obtain ⟨h_82, hy_89⟩ := h_82
            replace hy_89 := hy_89.symm
            subst hy_89
            replace h_82 : r_83 = oM_mass (X.1 16) (27 + 5 * f_30) := h_82
            subst h_82
            refine lv_iload_n hx hb dX8_taps_79 rfl (lv_at hl 3 rfl) ?_
            refine lv_iadd hx hb dX8_taps_80 ?_
            refine lv_bipush (v := 40) hx hb dX8_taps_81 (by decide) ?_
            refine lv_icmp_le (tgt := 92) hx hb dX8_taps_83 (by decide) (fun b_90 => ?_) (fun b_90 => ?_)
            · refine lv_aload_n hx hb dX8_taps_92 rfl (lv_at hl 0 rfl) ?_
              refine lv_iload_n hx hb dX8_taps_93 rfl (lv_at hl 1 rfl) ?_
              refine g_calli (va_runS (As := [.int (nI f_20)]) (rest := [.ref (ad G 723)]) C.1 (cX8_furnace_ok l G (setRow (setRow (setRow X 15 (X.1 15)) 16 (X.1 16)) 20 (X.1 20)) (nI f_20)) (va_cwS 1 C.1.2.2.2.2 (gS qw_1470 qw_1471 qw_81 qw_1472) rfl rfl rfl (by decide +kernel) ⟨Nat.le_of_ble_eq_true rfl, Nat.le_of_ble_eq_true rfl⟩) (g_pre C hW_87 hS_88 [.int (nI f_20)]) rfl rfl hl.1 rfl (lv_room (Nat.le_of_ble_eq_true rfl)) dX8_taps_94 ⟨Nat.zero_le _, Nat.zero_le _⟩) hS_88 (fun r_92 Y_93 H_94 locs_95 hW_96 hS_97 h_91 => ?_)
              obtain ⟨h_91, hy_98⟩ := h_91
              replace hy_98 := hy_98.symm
              subst hy_98
              replace h_91 : r_92 = oM_furnace (nI f_20) := h_91
              subst h_91
              refine g_top (y := nI (9 + 6 * f_20)) (at_furnace f_20) ?_
              refine lv_iload_n hx hb dX8_taps_97 rfl (lv_at hl 3 rfl) ?_
              refine g_callv (va_runV (As := [.int (nI (9 + 6 * f_20)), .int n]) (rest := []) C.1 (cX8_takes_ok l G (setRow (setRow (setRow X 15 (X.1 15)) 16 (X.1 16)) 20 (X.1 20)) (9 + 6 * f_20) n (show 9 + 6 * f_20 + 4 ≤ 128 by omega) (nz_take (N := 100) (hm.1 f_20 (by omega)) (by decide) hk03 hk01 (by omega) b_56)) (cwV 2 C.1.2.2.2.2 (gV qw_1627 qw_1629 qw_42 qw_81 qw_1630) rfl rfl rfl (by decide +kernel) ⟨Nat.le_of_ble_eq_true rfl, Nat.le_of_ble_eq_true rfl⟩) (g_rModel C hW_96 hS_97 [.int (nI (9 + 6 * f_20)), .int n]) rfl rfl hl.1 rfl (lv_room (Nat.le_of_ble_eq_true rfl)) dX8_taps_98 ⟨Nat.zero_le _, Nat.zero_le _⟩) hS_97 (fun Y_100 H_101 locs_102 hW_103 hS_104 h_99 => ?_)
              replace h_99 : Y_100 = setRow (setRow (setRow (setRow (setRow X 15 (X.1 15)) 16 (X.1 16)) 20 (X.1 20)) 16 ((oM_takes (X.1 16) (X.1 20) (9 + 6 * f_20) n).1)) 20 ((oM_takes (X.1 16) (X.1 20) (9 + 6 * f_20) n).2) := h_99
              obtain ⟨w_105, ew_105⟩ : ∃ Z9, Z9 = (oM_takes (X.1 16) (X.1 20) (9 + 6 * f_20) n).1 := ⟨_, rfl⟩
              obtain ⟨w_106, ew_106⟩ : ∃ Z9, Z9 = (oM_takes (X.1 16) (X.1 20) (9 + 6 * f_20) n).2 := ⟨_, rfl⟩
              have qqw_105 : Y_100 = setRow (setRow (setRow (setRow (setRow X 15 (X.1 15)) 16 (X.1 16)) 20 (X.1 20)) 16 w_105) 20 w_106 := by rw [h_99, ew_105, ew_106]
              have hW_107 : Wd G (setRow (setRow (setRow X 15 (X.1 15)) 16 w_105) 20 w_106) H_101 := Wd.cast (((qqw_105).trans (congrArg (fun Z9 => setRow (Z9) 20 w_106) (sr_in (by decide) sr_out))).trans (congrArg (fun Z9 => Z9) sr_out)) hW_103
              refine lv_aload_n hx hb dX8_taps_101 rfl (lv_at hl 0 rfl) ?_
              refine lv_iload_n hx hb dX8_taps_102 rfl (lv_at hl 2 rfl) ?_
              refine lv_aload_n hx hb dX8_taps_103 rfl (lv_at hl 0 rfl) ?_
              refine gM_v C hW_107 (hwc hwX8) (mc qw_1481) dX8_taps_104 ?_
              refine lv_iload_n hx hb dX8_taps_107 rfl (lv_at hl 1 rfl) ?_
              refine g_calli (va_runS (As := [.int (nI f_20)]) (rest := [.ref (ad G 724), .int (nI f_30), .ref (ad G 723)]) C.1 (cX8_furnace_ok l G (setRow (setRow (setRow X 15 (X.1 15)) 16 w_105) 20 w_106) (nI f_20)) (va_cwS 1 C.1.2.2.2.2 (gS qw_1470 qw_1471 qw_81 qw_1472) rfl rfl rfl (by decide +kernel) ⟨Nat.le_of_ble_eq_true rfl, Nat.le_of_ble_eq_true rfl⟩) (g_pre C hW_107 hS_104 [.int (nI f_20)]) rfl rfl hl.1 rfl (lv_room (Nat.le_of_ble_eq_true rfl)) dX8_taps_108 ⟨Nat.zero_le _, Nat.zero_le _⟩) hS_104 (fun r_109 Y_110 H_111 locs_112 hW_113 hS_114 h_108 => ?_)
              obtain ⟨h_108, hy_115⟩ := h_108
              replace hy_115 := hy_115.symm
              subst hy_115
              replace h_108 : r_109 = oM_furnace (nI f_20) := h_108
              subst h_108
              refine g_top (y := nI (9 + 6 * f_20)) (at_furnace f_20) ?_
              refine lv_iconst (v := 4) hx hb dX8_taps_111 (by decide) ?_
              refine lv_iadd hx hb dX8_taps_112 ?_
              refine g_top (y := nI ((9 + 6 * f_20) + 4)) (nI_add (9 + 6 * f_20) 4) ?_
              refine gm_vld C hW_113 ((9 + 6 * f_20) + 4) (nI_clamp (by omega)) (vp_in_nI (show (9 + 6 * f_20) + 4 < 128 by omega) (by decide)) dX8_taps_113 ?_
              refine g_top (y := w_105 ((9 + 6 * f_20) + 4)) (congrFun (rd_in (by decide) rd_out) _) ?_
              refine g_calli (va_runV (As := [.int (nI f_30), .int (w_105 ((9 + 6 * f_20) + 4))]) (rest := []) C.1 (cX8_fills_ok l G (setRow (setRow (setRow X 15 (X.1 15)) 16 w_105) 20 w_106) f_30 (w_105 ((9 + 6 * f_20) + 4)) (show f_30 < 3 by omega) (by subst ew_106; subst ew_105; exact nz_fill (N := 100) (M := 40) (hm.1 f_20 (by omega)) (hm.2.1 f_30 (by omega)) (by decide) (by decide) hk03 hk01 (by omega) b_56 (by omega))) (cwV 2 C.1.2.2.2.2 (gV qw_1631 qw_1633 qw_43 qw_81 qw_1634) rfl rfl rfl (by decide +kernel) ⟨Nat.le_of_ble_eq_true rfl, Nat.le_of_ble_eq_true rfl⟩) (g_rModel C hW_113 hS_114 [.int (nI f_30), .int (w_105 ((9 + 6 * f_20) + 4))]) rfl rfl hl.1 rfl (lv_room (Nat.le_of_ble_eq_true rfl)) dX8_taps_114 ⟨Nat.zero_le _, Nat.zero_le _⟩) hS_114 (fun r_117 Y_118 H_119 locs_120 hW_121 hS_122 h_116 => ?_)
              obtain ⟨h_123, h_116⟩ := h_116
              replace h_123 : r_117 = (oM_fills w_105 w_106 f_30 (w_105 ((9 + 6 * f_20) + 4))).1 := h_123
              subst h_123
              replace h_116 : Y_118 = setRow (setRow (setRow (setRow X 15 (X.1 15)) 16 w_105) 20 w_106) 16 ((oM_fills w_105 w_106 f_30 (w_105 ((9 + 6 * f_20) + 4))).2) := h_116
              obtain ⟨w_124, ew_124⟩ : ∃ Z9, Z9 = (oM_fills w_105 w_106 f_30 (w_105 ((9 + 6 * f_20) + 4))).2 := ⟨_, rfl⟩
              have qqw_124 : Y_118 = setRow (setRow (setRow (setRow X 15 (X.1 15)) 16 w_105) 20 w_106) 16 w_124 := by rw [h_116, ew_124]
              have hW_125 : Wd G (setRow (setRow (setRow X 15 (X.1 15)) 16 w_124) 20 w_106) H_119 := Wd.cast ((qqw_124).trans (congrArg (fun Z9 => Z9) (sr_in (by decide) sr_out))) hW_121
              exact g_iret C hr hlk hW_125 hS_122 dX8_taps_117 (by subst ew_124; subst ew_106; subst ew_105; exact ⟨(by first | rfl | (simp only [oM_taps, clf (show f_20 < 2 ^ 31 by omega), clf (show f_30 < 2 ^ 31 by omega), b_9, b_29, b_39, b_56, b_73, b_90, if_true, if_false]; first | done | rfl)), (by first | rfl | (simp only [oM_taps, clf (show f_20 < 2 ^ 31 by omega), clf (show f_30 < 2 ^ 31 by omega), b_9, b_29, b_39, b_56, b_73, b_90, if_true, if_false]; first | done | rfl))⟩)
            · refine lv_aload_n hx hb dX8_taps_86 rfl (lv_at hl 0 rfl) ?_
              refine lv_iconst (v := 5) hx hb dX8_taps_87 (by decide) ?_
              refine g_calli (va_runV (As := [.int 5]) (rest := []) C.1 (cX8_fail_ok l G (setRow (setRow (setRow X 15 (X.1 15)) 16 (X.1 16)) 20 (X.1 20)) 5) (cwV 1 C.1.2.2.2.2 (gV qw_1571 qw_1573 qw_31 qw_81 qw_1574) rfl rfl rfl (by decide +kernel) ⟨Nat.le_of_ble_eq_true rfl, Nat.le_of_ble_eq_true rfl⟩) (g_rModel C hW_87 hS_88 [.int 5]) rfl rfl hl.1 rfl (lv_room (Nat.le_of_ble_eq_true rfl)) dX8_taps_88 ⟨Nat.zero_le _, Nat.zero_le _⟩) hS_88 (fun r_127 Y_128 H_129 locs_130 hW_131 hS_132 h_126 => ?_)
              obtain ⟨h_133, h_126⟩ := h_126
              replace h_133 : r_127 = (oM_fail (X.1 15) 5).1 := h_133
              subst h_133
              replace h_126 : Y_128 = setRow (setRow (setRow (setRow X 15 (X.1 15)) 16 (X.1 16)) 20 (X.1 20)) 15 ((oM_fail (X.1 15) 5).2) := h_126
              obtain ⟨w_134, ew_134⟩ : ∃ Z9, Z9 = (oM_fail (X.1 15) 5).2 := ⟨_, rfl⟩
              have qqw_134 : Y_128 = setRow (setRow (setRow (setRow X 15 (X.1 15)) 16 (X.1 16)) 20 (X.1 20)) 15 w_134 := by rw [h_126, ew_134]
              have hW_135 : Wd G (setRow (setRow (setRow X 15 w_134) 16 (X.1 16)) 20 (X.1 20)) H_129 := Wd.cast ((qqw_134).trans (congrArg (fun Z9 => Z9) (sr_in (by decide) (sr_in (by decide) sr_out)))) hW_131
              exact g_iret C hr hlk hW_135 hS_132 dX8_taps_91 (by subst ew_134; exact ⟨(by first | rfl | (simp only [oM_taps, clf (show f_20 < 2 ^ 31 by omega), clf (show f_30 < 2 ^ 31 by omega), b_9, b_29, b_39, b_56, b_73, b_90, if_true, if_false]; first | done | rfl)), (by first | rfl | (simp only [oM_taps, clf (show f_20 < 2 ^ 31 by omega), clf (show f_30 < 2 ^ 31 by omega), b_9, b_29, b_39, b_56, b_73, b_90, if_true, if_false]; first | done | rfl))⟩)
          · refine lv_aload_n hx hb dX8_taps_65 rfl (lv_at hl 0 rfl) ?_
            refine lv_iconst (v := 4) hx hb dX8_taps_66 (by decide) ?_
            refine g_calli (va_runV (As := [.int 4]) (rest := []) C.1 (cX8_fail_ok l G (setRow (setRow (setRow X 15 (X.1 15)) 16 (X.1 16)) 20 (X.1 20)) 4) (cwV 1 C.1.2.2.2.2 (gV qw_1571 qw_1573 qw_31 qw_81 qw_1574) rfl rfl rfl (by decide +kernel) ⟨Nat.le_of_ble_eq_true rfl, Nat.le_of_ble_eq_true rfl⟩) (g_rModel C hW_70 hS_71 [.int 4]) rfl rfl hl.1 rfl (lv_room (Nat.le_of_ble_eq_true rfl)) dX8_taps_67 ⟨Nat.zero_le _, Nat.zero_le _⟩) hS_71 (fun r_137 Y_138 H_139 locs_140 hW_141 hS_142 h_136 => ?_)
            obtain ⟨h_143, h_136⟩ := h_136
            replace h_143 : r_137 = (oM_fail (X.1 15) 4).1 := h_143
            subst h_143
            replace h_136 : Y_138 = setRow (setRow (setRow (setRow X 15 (X.1 15)) 16 (X.1 16)) 20 (X.1 20)) 15 ((oM_fail (X.1 15) 4).2) := h_136
            obtain ⟨w_144, ew_144⟩ : ∃ Z9, Z9 = (oM_fail (X.1 15) 4).2 := ⟨_, rfl⟩
            have qqw_144 : Y_138 = setRow (setRow (setRow (setRow X 15 (X.1 15)) 16 (X.1 16)) 20 (X.1 20)) 15 w_144 := by rw [h_136, ew_144]
            have hW_145 : Wd G (setRow (setRow (setRow X 15 w_144) 16 (X.1 16)) 20 (X.1 20)) H_139 := Wd.cast ((qqw_144).trans (congrArg (fun Z9 => Z9) (sr_in (by decide) (sr_in (by decide) sr_out)))) hW_141
            exact g_iret C hr hlk hW_145 hS_142 dX8_taps_70 (by subst ew_144; exact ⟨(by first | rfl | (simp only [oM_taps, clf (show f_20 < 2 ^ 31 by omega), clf (show f_30 < 2 ^ 31 by omega), b_9, b_29, b_39, b_56, eq_true b_73, if_true, if_false]; first | done | rfl)), (by first | rfl | (simp only [oM_taps, clf (show f_20 < 2 ^ 31 by omega), clf (show f_30 < 2 ^ 31 by omega), b_9, b_29, b_39, b_56, eq_true b_73, if_true, if_false]; first | done | rfl))⟩)
        · refine lv_aload_n hx hb dX8_taps_48 rfl (lv_at hl 0 rfl) ?_
          refine lv_iconst (v := 3) hx hb dX8_taps_49 (by decide) ?_
          refine g_calli (va_runV (As := [.int 3]) (rest := []) C.1 (cX8_fail_ok l G (setRow (setRow (setRow X 15 (X.1 15)) 16 (X.1 16)) 20 (X.1 20)) 3) (cwV 1 C.1.2.2.2.2 (gV qw_1571 qw_1573 qw_31 qw_81 qw_1574) rfl rfl rfl (by decide +kernel) ⟨Nat.le_of_ble_eq_true rfl, Nat.le_of_ble_eq_true rfl⟩) (g_rModel C hW_53 hS_54 [.int 3]) rfl rfl hl.1 rfl (lv_room (Nat.le_of_ble_eq_true rfl)) dX8_taps_50 ⟨Nat.zero_le _, Nat.zero_le _⟩) hS_54 (fun r_147 Y_148 H_149 locs_150 hW_151 hS_152 h_146 => ?_)
          obtain ⟨h_153, h_146⟩ := h_146
          replace h_153 : r_147 = (oM_fail (X.1 15) 3).1 := h_153
          subst h_153
          replace h_146 : Y_148 = setRow (setRow (setRow (setRow X 15 (X.1 15)) 16 (X.1 16)) 20 (X.1 20)) 15 ((oM_fail (X.1 15) 3).2) := h_146
          obtain ⟨w_154, ew_154⟩ : ∃ Z9, Z9 = (oM_fail (X.1 15) 3).2 := ⟨_, rfl⟩
          have qqw_154 : Y_148 = setRow (setRow (setRow (setRow X 15 (X.1 15)) 16 (X.1 16)) 20 (X.1 20)) 15 w_154 := by rw [h_146, ew_154]
          have hW_155 : Wd G (setRow (setRow (setRow X 15 w_154) 16 (X.1 16)) 20 (X.1 20)) H_149 := Wd.cast ((qqw_154).trans (congrArg (fun Z9 => Z9) (sr_in (by decide) (sr_in (by decide) sr_out)))) hW_151
          exact g_iret C hr hlk hW_155 hS_152 dX8_taps_53 (by subst ew_154; exact ⟨(by first | rfl | (simp only [oM_taps, clf (show f_20 < 2 ^ 31 by omega), clf (show f_30 < 2 ^ 31 by omega), b_9, b_29, b_39, b_56, if_true, if_false]; first | done | rfl)), (by first | rfl | (simp only [oM_taps, clf (show f_20 < 2 ^ 31 by omega), clf (show f_30 < 2 ^ 31 by omega), b_9, b_29, b_39, b_56, if_true, if_false]; first | done | rfl))⟩)
      · refine lv_aload_n hx hb dX8_taps_30 rfl (lv_at hl 0 rfl) ?_
        refine lv_iconst (v := 2) hx hb dX8_taps_31 (by decide) ?_
        refine g_calli (va_runV (As := [.int 2]) (rest := []) C.1 (cX8_fail_ok l G (setRow (setRow (setRow X 15 (X.1 15)) 16 (X.1 16)) 20 (X.1 20)) 2) (cwV 1 C.1.2.2.2.2 (gV qw_1571 qw_1573 qw_31 qw_81 qw_1574) rfl rfl rfl (by decide +kernel) ⟨Nat.le_of_ble_eq_true rfl, Nat.le_of_ble_eq_true rfl⟩) (g_rModel C hW_36 hS_37 [.int 2]) rfl rfl hl.1 rfl (lv_room (Nat.le_of_ble_eq_true rfl)) dX8_taps_32 ⟨Nat.zero_le _, Nat.zero_le _⟩) hS_37 (fun r_157 Y_158 H_159 locs_160 hW_161 hS_162 h_156 => ?_)
        obtain ⟨h_163, h_156⟩ := h_156
        replace h_163 : r_157 = (oM_fail (X.1 15) 2).1 := h_163
        subst h_163
        replace h_156 : Y_158 = setRow (setRow (setRow (setRow X 15 (X.1 15)) 16 (X.1 16)) 20 (X.1 20)) 15 ((oM_fail (X.1 15) 2).2) := h_156
        obtain ⟨w_164, ew_164⟩ : ∃ Z9, Z9 = (oM_fail (X.1 15) 2).2 := ⟨_, rfl⟩
        have qqw_164 : Y_158 = setRow (setRow (setRow (setRow X 15 (X.1 15)) 16 (X.1 16)) 20 (X.1 20)) 15 w_164 := by rw [h_156, ew_164]
        have hW_165 : Wd G (setRow (setRow (setRow X 15 w_164) 16 (X.1 16)) 20 (X.1 20)) H_159 := Wd.cast ((qqw_164).trans (congrArg (fun Z9 => Z9) (sr_in (by decide) (sr_in (by decide) sr_out)))) hW_161
        exact g_iret C hr hlk hW_165 hS_162 dX8_taps_35 (by subst ew_164; exact ⟨(by first | rfl | (simp only [oM_taps, clf (show f_20 < 2 ^ 31 by omega), clf (show f_30 < 2 ^ 31 by omega), b_9, b_29, eq_true b_39, if_true, if_false]; first | done | rfl)), (by first | rfl | (simp only [oM_taps, clf (show f_20 < 2 ^ 31 by omega), clf (show f_30 < 2 ^ 31 by omega), b_9, b_29, eq_true b_39, if_true, if_false]; first | done | rfl))⟩)
    · refine lv_aload_n hx hb dX8_taps_14 rfl (lv_at hl 0 rfl) ?_
      refine lv_iconst (v := 1) hx hb dX8_taps_15 (by decide) ?_
      refine g_calli (va_runV (As := [.int 1]) (rest := []) C.1 (cX8_fail_ok l G (setRow (setRow (setRow X 15 (X.1 15)) 16 (X.1 16)) 20 (X.1 20)) 1) (cwV 1 C.1.2.2.2.2 (gV qw_1571 qw_1573 qw_31 qw_81 qw_1574) rfl rfl rfl (by decide +kernel) ⟨Nat.le_of_ble_eq_true rfl, Nat.le_of_ble_eq_true rfl⟩) (g_rModel C hW_26 hS_27 [.int 1]) rfl rfl hl.1 rfl (lv_room (Nat.le_of_ble_eq_true rfl)) dX8_taps_16 ⟨Nat.zero_le _, Nat.zero_le _⟩) hS_27 (fun r_167 Y_168 H_169 locs_170 hW_171 hS_172 h_166 => ?_)
      obtain ⟨h_173, h_166⟩ := h_166
      replace h_173 : r_167 = (oM_fail (X.1 15) 1).1 := h_173
      subst h_173
      replace h_166 : Y_168 = setRow (setRow (setRow (setRow X 15 (X.1 15)) 16 (X.1 16)) 20 (X.1 20)) 15 ((oM_fail (X.1 15) 1).2) := h_166
      obtain ⟨w_174, ew_174⟩ : ∃ Z9, Z9 = (oM_fail (X.1 15) 1).2 := ⟨_, rfl⟩
      have qqw_174 : Y_168 = setRow (setRow (setRow (setRow X 15 (X.1 15)) 16 (X.1 16)) 20 (X.1 20)) 15 w_174 := by rw [h_166, ew_174]
      have hW_175 : Wd G (setRow (setRow (setRow X 15 w_174) 16 (X.1 16)) 20 (X.1 20)) H_169 := Wd.cast ((qqw_174).trans (congrArg (fun Z9 => Z9) (sr_in (by decide) (sr_in (by decide) sr_out)))) hW_171
      exact g_iret C hr hlk hW_175 hS_172 dX8_taps_19 (by subst ew_174; exact ⟨(by first | rfl | (simp only [oM_taps, clf (show f_20 < 2 ^ 31 by omega), b_9, eq_true b_29, if_true, if_false]; first | done | rfl)), (by first | rfl | (simp only [oM_taps, clf (show f_20 < 2 ^ 31 by omega), b_9, eq_true b_29, if_true, if_false]; first | done | rfl))⟩)

def oM_backs (w15 : Nat → Int32) (w16 : Nat → Int32) (w20 : Nat → Int32) (la : Int32) (f : Int32) : Int32 × ((Nat → Int32) × ((Nat → Int32) × (Nat → Int32))) := if oM_isThree la = 0 then ((oM_fail (w15) 1).1, ((oM_fail (w15) 1).2), w16, w20) else (if oM_isThree f = 0 then ((oM_fail (w15) 1).1, ((oM_fail (w15) 1).2), w16, w20) else (if (oM_mass (w16) (27 + 5 * la.toNatClampNeg)) = 0 then ((oM_fail (w15) 2).1, ((oM_fail (w15) 2).2), w16, w20) else (if (oM_mass (w16) (9 + 6 * f.toNatClampNeg)) + (oM_mass (w16) (27 + 5 * la.toNatClampNeg)) ≤ 100 then ((oM_feeds (oM_cools ((oM_takes (w16) (w20) (27 + 5 * la.toNatClampNeg) (oM_mass (w16) (27 + 5 * la.toNatClampNeg))).1) la.toNatClampNeg) ((oM_takes (w16) (w20) (27 + 5 * la.toNatClampNeg) (oM_mass (w16) (27 + 5 * la.toNatClampNeg))).2) f.toNatClampNeg (w16 ((27 + 5 * la.toNatClampNeg) + 4))).1, w15, ((oM_feeds (oM_cools ((oM_takes (w16) (w20) (27 + 5 * la.toNatClampNeg) (oM_mass (w16) (27 + 5 * la.toNatClampNeg))).1) la.toNatClampNeg) ((oM_takes (w16) (w20) (27 + 5 * la.toNatClampNeg) (oM_mass (w16) (27 + 5 * la.toNatClampNeg))).2) f.toNatClampNeg (w16 ((27 + 5 * la.toNatClampNeg) + 4))).2), ((oM_takes (w16) (w20) (27 + 5 * la.toNatClampNeg) (oM_mass (w16) (27 + 5 * la.toNatClampNeg))).2)) else ((oM_fail (w15) 3).1, ((oM_fail (w15) 3).2), w16, w20))))
set_option maxHeartbeats 4000000 in
set_option maxRecDepth 100000 in
theorem cX8_backs_ok (l : Launch) (G : GT) (X : St) (la : Int32) (f : Int32) (hm : MInv (X.1 16)) : MetI l G yX8_backs (wsG yX8_backs cX8_backs 5 (some .int)) (rmz 2 47) [.ref (ad G 723), .int la, .int f] X (fun res Y => res = (oM_backs (X.1 15) (X.1 16) (X.1 20) la f).1 ∧ Y = setRow (setRow (setRow (X) 15 ((oM_backs (X.1 15) (X.1 16) (X.1 20) la f).2.1)) 16 ((oM_backs (X.1 15) (X.1 16) (X.1 20) la f).2.2.1)) 20 ((oM_backs (X.1 15) (X.1 16) (X.1 20) la f).2.2.2)) := by
  refine g_met (cc := cX8_backs) (maxL := 5) (ret := (some .int)) (by decide) rfl (Nat.le_of_ble_eq_true rfl) ?_
  intro p e s m below meth c ls C hr hlk hnm hW hl
  have hx := C.1.1
  have hb := C.1.2.1
  have hS : va_S (Ab G) s.heap s.heap [] := va_S.rf
  have hl : lv_has ls 5 [(0, .ref (ad G 723)), (1, .int la), (2, .int f)] := hl
  have hW : Wd G (setRow (setRow (setRow (X) 15 (X.1 15)) 16 (X.1 16)) 20 (X.1 20)) s.heap := Wd.cast ((((sr_same (X := setRow (setRow (X) 15 (X.1 15)) 16 (X.1 16)) (r := 20) rfl).trans (sr_same (X := setRow (X) 15 (X.1 15)) (r := 16) rfl)).trans (sr_same (X := X) (r := 15) rfl))).symm hW
  refine lv_iload_n hx hb dX8_backs_0 rfl (lv_at hl 1 rfl) ?_
  refine g_calli (va_runS (As := [.int la]) (rest := []) C.1 (cX8_isThree_ok l G (setRow (setRow (setRow X 15 (X.1 15)) 16 (X.1 16)) 20 (X.1 20)) la) (va_cwS 1 C.1.2.2.2.2 (gS qw_1565 qw_1566 qw_81 qw_1567) rfl rfl rfl (by decide +kernel) ⟨Nat.le_of_ble_eq_true rfl, Nat.le_of_ble_eq_true rfl⟩) (g_pre C hW hS [.int la]) rfl rfl hl.1 rfl (lv_room (Nat.le_of_ble_eq_true rfl)) dX8_backs_1 ⟨Nat.zero_le _, Nat.zero_le _⟩) hS (fun r_2 Y_3 H_4 locs_5 hW_6 hS_7 h_1 => ?_)
  obtain ⟨h_1, hy_8⟩ := h_1
  replace hy_8 := hy_8.symm
  subst hy_8
  replace h_1 : r_2 = oM_isThree la := h_1
  subst h_1
  refine lv_if_eq (tgt := 14) hx hb dX8_backs_4 (by decide) (fun b_9 => ?_) (fun b_9 => ?_)
  · refine lv_aload_n hx hb dX8_backs_14 rfl (lv_at hl 0 rfl) ?_
    refine lv_iconst (v := 1) hx hb dX8_backs_15 (by decide) ?_
    refine g_calli (va_runV (As := [.int 1]) (rest := []) C.1 (cX8_fail_ok l G (setRow (setRow (setRow X 15 (X.1 15)) 16 (X.1 16)) 20 (X.1 20)) 1) (cwV 1 C.1.2.2.2.2 (gV qw_1571 qw_1573 qw_31 qw_81 qw_1574) rfl rfl rfl (by decide +kernel) ⟨Nat.le_of_ble_eq_true rfl, Nat.le_of_ble_eq_true rfl⟩) (g_rModel C hW_6 hS_7 [.int 1]) rfl rfl hl.1 rfl (lv_room (Nat.le_of_ble_eq_true rfl)) dX8_backs_16 ⟨Nat.zero_le _, Nat.zero_le _⟩) hS_7 (fun r_11 Y_12 H_13 locs_14 hW_15 hS_16 h_10 => ?_)
    obtain ⟨h_17, h_10⟩ := h_10
    replace h_17 : r_11 = (oM_fail (X.1 15) 1).1 := h_17
    subst h_17
    replace h_10 : Y_12 = setRow (setRow (setRow (setRow X 15 (X.1 15)) 16 (X.1 16)) 20 (X.1 20)) 15 ((oM_fail (X.1 15) 1).2) := h_10
    obtain ⟨w_18, ew_18⟩ : ∃ Z9, Z9 = (oM_fail (X.1 15) 1).2 := ⟨_, rfl⟩
    have qqw_18 : Y_12 = setRow (setRow (setRow (setRow X 15 (X.1 15)) 16 (X.1 16)) 20 (X.1 20)) 15 w_18 := by rw [h_10, ew_18]
    have hW_19 : Wd G (setRow (setRow (setRow X 15 w_18) 16 (X.1 16)) 20 (X.1 20)) H_13 := Wd.cast ((qqw_18).trans (congrArg (fun Z9 => Z9) (sr_in (by decide) (sr_in (by decide) sr_out)))) hW_15
    exact g_iret C hr hlk hW_19 hS_16 dX8_backs_19 (by subst ew_18; exact ⟨(by first | rfl | (simp only [oM_backs, eq_true b_9, if_true, if_false]; first | done | rfl)), (by first | rfl | (simp only [oM_backs, eq_true b_9, if_true, if_false]; first | done | rfl))⟩)
  · obtain ⟨f_20, hf_20, rfl⟩ := three_in b_9
    refine lv_iload_n hx hb dX8_backs_7 rfl (lv_at hl 2 rfl) ?_
    refine g_calli (va_runS (As := [.int f]) (rest := []) C.1 (cX8_isThree_ok l G (setRow (setRow (setRow X 15 (X.1 15)) 16 (X.1 16)) 20 (X.1 20)) f) (va_cwS 1 C.1.2.2.2.2 (gS qw_1565 qw_1566 qw_81 qw_1567) rfl rfl rfl (by decide +kernel) ⟨Nat.le_of_ble_eq_true rfl, Nat.le_of_ble_eq_true rfl⟩) (g_pre C hW_6 hS_7 [.int f]) rfl rfl hl.1 rfl (lv_room (Nat.le_of_ble_eq_true rfl)) dX8_backs_8 ⟨Nat.zero_le _, Nat.zero_le _⟩) hS_7 (fun r_22 Y_23 H_24 locs_25 hW_26 hS_27 h_21 => ?_)
    obtain ⟨h_21, hy_28⟩ := h_21
    replace hy_28 := hy_28.symm
    subst hy_28
    replace h_21 : r_22 = oM_isThree f := h_21
    subst h_21
    refine lv_if_ne (tgt := 20) hx hb dX8_backs_11 (by decide) (fun b_29 => ?_) (fun b_29 => ?_)
    · obtain ⟨f_30, hf_30, rfl⟩ := three_in b_29
      refine lv_aload_n hx hb dX8_backs_20 rfl (lv_at hl 0 rfl) ?_
      refine lv_iload_n hx hb dX8_backs_21 rfl (lv_at hl 1 rfl) ?_
      refine g_calli (va_runS (As := [.int (nI f_20)]) (rest := [.ref (ad G 723)]) C.1 (cX8_ladle_ok l G (setRow (setRow (setRow X 15 (X.1 15)) 16 (X.1 16)) 20 (X.1 20)) (nI f_20)) (va_cwS 1 C.1.2.2.2.2 (gS qw_1473 qw_1474 qw_81 qw_1475) rfl rfl rfl (by decide +kernel) ⟨Nat.le_of_ble_eq_true rfl, Nat.le_of_ble_eq_true rfl⟩) (g_pre C hW_26 hS_27 [.int (nI f_20)]) rfl rfl hl.1 rfl (lv_room (Nat.le_of_ble_eq_true rfl)) dX8_backs_22 ⟨Nat.zero_le _, Nat.zero_le _⟩) hS_27 (fun r_32 Y_33 H_34 locs_35 hW_36 hS_37 h_31 => ?_)
      obtain ⟨h_31, hy_38⟩ := h_31
      replace hy_38 := hy_38.symm
      subst hy_38
      replace h_31 : r_32 = oM_ladle (nI f_20) := h_31
      subst h_31
      refine g_top (y := nI (27 + 5 * f_20)) (at_ladle f_20) ?_
      refine g_calli (va_runV (As := [.int (nI (27 + 5 * f_20))]) (rest := []) C.1 (cX8_mass_ok l G (setRow (setRow (setRow X 15 (X.1 15)) 16 (X.1 16)) 20 (X.1 20)) (27 + 5 * f_20) (show 27 + 5 * f_20 + 4 ≤ 128 by omega)) (cwV 1 C.1.2.2.2.2 (gV qw_1575 qw_1577 qw_32 qw_81 qw_1578) rfl rfl rfl (by decide +kernel) ⟨Nat.le_of_ble_eq_true rfl, Nat.le_of_ble_eq_true rfl⟩) (g_rModel C hW_36 hS_37 [.int (nI (27 + 5 * f_20))]) rfl rfl hl.1 rfl (lv_room (Nat.le_of_ble_eq_true rfl)) dX8_backs_25 ⟨Nat.zero_le _, Nat.zero_le _⟩) hS_37 (fun r_40 Y_41 H_42 locs_43 hW_44 hS_45 h_39 => ?_)
      obtain ⟨h_39, hy_46⟩ := h_39
      replace hy_46 := hy_46.symm
      subst hy_46
      replace h_39 : r_40 = oM_mass (X.1 16) (27 + 5 * f_20) := h_39
      subst h_39
      refine lv_topi (fun v_47 ev_47 => ?_)
      refine lv_istore_n (lv' := [(3, .int v_47), (0, .ref (ad G 723)), (1, .int (nI f_20)), (2, .int (nI f_30))]) hx hb dX8_backs_28 rfl hl (by decide) rfl (fun ls_48 hl_49 => ?_)
      refine lv_aload_n hx hb dX8_backs_29 rfl (lv_at hl_49 1 rfl) ?_
      refine gM_v C hW_44 (hwc hwX8) (mc qw_1481) dX8_backs_30 ?_
      refine lv_iload_n hx hb dX8_backs_33 rfl (lv_at hl_49 2 rfl) ?_
      refine g_calli (va_runS (As := [.int (nI f_20)]) (rest := [.ref (ad G 724)]) C.1 (cX8_ladle_ok l G (setRow (setRow (setRow X 15 (X.1 15)) 16 (X.1 16)) 20 (X.1 20)) (nI f_20)) (va_cwS 1 C.1.2.2.2.2 (gS qw_1473 qw_1474 qw_81 qw_1475) rfl rfl rfl (by decide +kernel) ⟨Nat.le_of_ble_eq_true rfl, Nat.le_of_ble_eq_true rfl⟩) (g_pre C hW_44 hS_45 [.int (nI f_20)]) rfl rfl hl_49.1 rfl (lv_room (Nat.le_of_ble_eq_true rfl)) dX8_backs_34 ⟨Nat.zero_le _, Nat.zero_le _⟩) hS_45 (fun r_51 Y_52 H_53 locs_54 hW_55 hS_56 h_50 => ?_)
      obtain ⟨h_50, hy_57⟩ := h_50
      replace hy_57 := hy_57.symm
      subst hy_57
      replace h_50 : r_51 = oM_ladle (nI f_20) := h_50
      subst h_50
      refine g_top (y := nI (27 + 5 * f_20)) (at_ladle f_20) ?_
      refine lv_iconst (v := 4) hx hb dX8_backs_37 (by decide) ?_
      refine lv_iadd hx hb dX8_backs_38 ?_
      refine g_top (y := nI ((27 + 5 * f_20) + 4)) (nI_add (27 + 5 * f_20) 4) ?_
      refine gm_vld C hW_55 ((27 + 5 * f_20) + 4) (nI_clamp (by omega)) (vp_in_nI (show (27 + 5 * f_20) + 4 < 128 by omega) (by decide)) dX8_backs_39 ?_
      refine g_top (y := X.1 16 ((27 + 5 * f_20) + 4)) (congrFun (rd_in (by decide) rd_out) _) ?_
      refine lv_topi (fun v_58 ev_58 => ?_)
      refine lv_istore (lv' := [(4, .int v_58), (3, .int v_47), (0, .ref (ad G 723)), (1, .int (nI f_20)), (2, .int (nI f_30))]) hx hb dX8_backs_40 hl_49 (by decide) rfl (fun ls_59 hl_60 => ?_)
      refine lv_iload_n hx hb dX8_backs_42 rfl (lv_at hl_60 1 rfl) ?_
      refine lv_if_ne (tgt := 52) hx hb dX8_backs_43 (by decide) (fun b_61 => ?_) (fun b_61 => ?_)
      · refine lv_aload_n hx hb dX8_backs_52 rfl (lv_at hl_60 2 rfl) ?_
        refine lv_iload_n hx hb dX8_backs_53 rfl (lv_at hl_60 4 rfl) ?_
        refine g_calli (va_runS (As := [.int (nI f_30)]) (rest := [.ref (ad G 723)]) C.1 (cX8_furnace_ok l G (setRow (setRow (setRow X 15 (X.1 15)) 16 (X.1 16)) 20 (X.1 20)) (nI f_30)) (va_cwS 1 C.1.2.2.2.2 (gS qw_1470 qw_1471 qw_81 qw_1472) rfl rfl rfl (by decide +kernel) ⟨Nat.le_of_ble_eq_true rfl, Nat.le_of_ble_eq_true rfl⟩) (g_pre C hW_55 hS_56 [.int (nI f_30)]) rfl rfl hl_60.1 rfl (lv_room (Nat.le_of_ble_eq_true rfl)) dX8_backs_54 ⟨Nat.zero_le _, Nat.zero_le _⟩) hS_56 (fun r_63 Y_64 H_65 locs_66 hW_67 hS_68 h_62 => ?_)
        obtain ⟨h_62, hy_69⟩ := h_62
        replace hy_69 := hy_69.symm
        subst hy_69
        replace h_62 : r_63 = oM_furnace (nI f_30) := h_62
        subst h_62
        refine g_top (y := nI (9 + 6 * f_30)) (at_furnace f_30) ?_
        refine g_calli (va_runV (As := [.int (nI (9 + 6 * f_30))]) (rest := []) C.1 (cX8_mass_ok l G (setRow (setRow (setRow X 15 (X.1 15)) 16 (X.1 16)) 20 (X.1 20)) (9 + 6 * f_30) (show 9 + 6 * f_30 + 4 ≤ 128 by omega)) (cwV 1 C.1.2.2.2.2 (gV qw_1575 qw_1577 qw_32 qw_81 qw_1578) rfl rfl rfl (by decide +kernel) ⟨Nat.le_of_ble_eq_true rfl, Nat.le_of_ble_eq_true rfl⟩) (g_rModel C hW_67 hS_68 [.int (nI (9 + 6 * f_30))]) rfl rfl hl_60.1 rfl (lv_room (Nat.le_of_ble_eq_true rfl)) dX8_backs_57 ⟨Nat.zero_le _, Nat.zero_le _⟩) hS_68 (fun r_71 Y_72 H_73 locs_74 hW_75 hS_76 h_70 => ?_)
        obtain ⟨h_70, hy_77⟩ := h_70
        replace hy_77 := hy_77.symm
        subst hy_77
        replace h_70 : r_71 = oM_mass (X.1 16) (9 + 6 * f_30) := h_70
        subst h_70
        refine lv_iload_n hx hb dX8_backs_60 rfl (lv_at hl_60 1 rfl) ?_
        refine lv_iadd hx hb dX8_backs_61 ?_
        refine lv_bipush (v := 100) hx hb dX8_backs_62 (by decide) ?_
        refine lv_icmp_le (tgt := 73) hx hb dX8_backs_64 (by decide) (fun b_78 => ?_) (fun b_78 => ?_)
        · refine lv_aload_n hx hb dX8_backs_73 rfl (lv_at hl_60 2 rfl) ?_
          refine lv_iload_n hx hb dX8_backs_74 rfl (lv_at hl_60 3 rfl) ?_
          refine g_calli (va_runS (As := [.int (nI f_20)]) (rest := [.ref (ad G 723)]) C.1 (cX8_ladle_ok l G (setRow (setRow (setRow X 15 (X.1 15)) 16 (X.1 16)) 20 (X.1 20)) (nI f_20)) (va_cwS 1 C.1.2.2.2.2 (gS qw_1473 qw_1474 qw_81 qw_1475) rfl rfl rfl (by decide +kernel) ⟨Nat.le_of_ble_eq_true rfl, Nat.le_of_ble_eq_true rfl⟩) (g_pre C hW_75 hS_76 [.int (nI f_20)]) rfl rfl hl_60.1 rfl (lv_room (Nat.le_of_ble_eq_true rfl)) dX8_backs_75 ⟨Nat.zero_le _, Nat.zero_le _⟩) hS_76 (fun r_80 Y_81 H_82 locs_83 hW_84 hS_85 h_79 => ?_)
          obtain ⟨h_79, hy_86⟩ := h_79
          replace hy_86 := hy_86.symm
          subst hy_86
          replace h_79 : r_80 = oM_ladle (nI f_20) := h_79
          subst h_79
          refine g_top (y := nI (27 + 5 * f_20)) (at_ladle f_20) ?_
          refine lv_iload_n hx hb dX8_backs_78 rfl (lv_at hl_60 1 rfl) ?_
          refine g_callv (va_runV (As := [.int (nI (27 + 5 * f_20)), .int v_47]) (rest := []) C.1 (cX8_takes_ok l G (setRow (setRow (setRow X 15 (X.1 15)) 16 (X.1 16)) 20 (X.1 20)) (27 + 5 * f_20) v_47 (show 27 + 5 * f_20 + 4 ≤ 128 by omega) (by subst ev_58; subst ev_47; exact b_61)) (cwV 2 C.1.2.2.2.2 (gV qw_1627 qw_1629 qw_42 qw_81 qw_1630) rfl rfl rfl (by decide +kernel) ⟨Nat.le_of_ble_eq_true rfl, Nat.le_of_ble_eq_true rfl⟩) (g_rModel C hW_84 hS_85 [.int (nI (27 + 5 * f_20)), .int v_47]) rfl rfl hl_60.1 rfl (lv_room (Nat.le_of_ble_eq_true rfl)) dX8_backs_79 ⟨Nat.zero_le _, Nat.zero_le _⟩) hS_85 (fun Y_88 H_89 locs_90 hW_91 hS_92 h_87 => ?_)
          replace h_87 : Y_88 = setRow (setRow (setRow (setRow (setRow X 15 (X.1 15)) 16 (X.1 16)) 20 (X.1 20)) 16 ((oM_takes (X.1 16) (X.1 20) (27 + 5 * f_20) v_47).1)) 20 ((oM_takes (X.1 16) (X.1 20) (27 + 5 * f_20) v_47).2) := h_87
          obtain ⟨w_93, ew_93⟩ : ∃ Z9, Z9 = (oM_takes (X.1 16) (X.1 20) (27 + 5 * f_20) v_47).1 := ⟨_, rfl⟩
          obtain ⟨w_94, ew_94⟩ : ∃ Z9, Z9 = (oM_takes (X.1 16) (X.1 20) (27 + 5 * f_20) v_47).2 := ⟨_, rfl⟩
          have qqw_93 : Y_88 = setRow (setRow (setRow (setRow (setRow X 15 (X.1 15)) 16 (X.1 16)) 20 (X.1 20)) 16 w_93) 20 w_94 := by rw [h_87, ew_93, ew_94]
          have hW_95 : Wd G (setRow (setRow (setRow X 15 (X.1 15)) 16 w_93) 20 w_94) H_89 := Wd.cast (((qqw_93).trans (congrArg (fun Z9 => setRow (Z9) 20 w_94) (sr_in (by decide) sr_out))).trans (congrArg (fun Z9 => Z9) sr_out)) hW_91
          refine lv_aload_n hx hb dX8_backs_82 rfl (lv_at hl_60 2 rfl) ?_
          refine lv_iload_n hx hb dX8_backs_83 rfl (lv_at hl_60 3 rfl) ?_
          refine g_callv (va_runV (As := [.int (nI f_20)]) (rest := []) C.1 (cX8_cools_ok l G (setRow (setRow (setRow X 15 (X.1 15)) 16 w_93) 20 w_94) f_20 (show f_20 < 3 by omega)) (cwV 1 C.1.2.2.2.2 (gV qw_1643 qw_1645 qw_45 qw_81 qw_1646) rfl rfl rfl (by decide +kernel) ⟨Nat.le_of_ble_eq_true rfl, Nat.le_of_ble_eq_true rfl⟩) (g_rModel C hW_95 hS_92 [.int (nI f_20)]) rfl rfl hl_60.1 rfl (lv_room (Nat.le_of_ble_eq_true rfl)) dX8_backs_84 ⟨Nat.zero_le _, Nat.zero_le _⟩) hS_92 (fun Y_97 H_98 locs_99 hW_100 hS_101 h_96 => ?_)
          replace h_96 : Y_97 = setRow (setRow (setRow (setRow X 15 (X.1 15)) 16 w_93) 20 w_94) 16 (oM_cools w_93 f_20) := h_96
          obtain ⟨w_102, ew_102⟩ : ∃ Z9, Z9 = oM_cools w_93 f_20 := ⟨_, rfl⟩
          have qqw_102 : Y_97 = setRow (setRow (setRow (setRow X 15 (X.1 15)) 16 w_93) 20 w_94) 16 w_102 := by rw [h_96, ew_102]
          have hW_103 : Wd G (setRow (setRow (setRow X 15 (X.1 15)) 16 w_102) 20 w_94) H_98 := Wd.cast ((qqw_102).trans (congrArg (fun Z9 => Z9) (sr_in (by decide) sr_out))) hW_100
          refine lv_aload_n hx hb dX8_backs_87 rfl (lv_at hl_60 2 rfl) ?_
          refine lv_iload_n hx hb dX8_backs_88 rfl (lv_at hl_60 4 rfl) ?_
          refine lv_iload hx hb dX8_backs_89 (lv_at hl_60 0 rfl) ?_
          refine g_calli (va_runV (As := [.int (nI f_30), .int v_58]) (rest := []) C.1 (cX8_feeds_ok l G (setRow (setRow (setRow X 15 (X.1 15)) 16 w_102) 20 w_94) f_30 v_58 (show f_30 < 3 by omega) (by subst ew_102; subst ew_94; subst ew_93; subst ev_58; subst ev_47; exact nz_backs (hm.2.1 f_20 (by omega)) (hm.1 f_30 (by omega)) b_61 (by omega))) (cwV 2 C.1.2.2.2.2 (gV qw_1579 qw_1581 qw_33 qw_81 qw_1582) rfl rfl rfl (by decide +kernel) ⟨Nat.le_of_ble_eq_true rfl, Nat.le_of_ble_eq_true rfl⟩) (g_rModel C hW_103 hS_101 [.int (nI f_30), .int v_58]) rfl rfl hl_60.1 rfl (lv_room (Nat.le_of_ble_eq_true rfl)) dX8_backs_91 ⟨Nat.zero_le _, Nat.zero_le _⟩) hS_101 (fun r_105 Y_106 H_107 locs_108 hW_109 hS_110 h_104 => ?_)
          obtain ⟨h_111, h_104⟩ := h_104
          replace h_111 : r_105 = (oM_feeds w_102 w_94 f_30 v_58).1 := h_111
          subst h_111
          replace h_104 : Y_106 = setRow (setRow (setRow (setRow X 15 (X.1 15)) 16 w_102) 20 w_94) 16 ((oM_feeds w_102 w_94 f_30 v_58).2) := h_104
          obtain ⟨w_112, ew_112⟩ : ∃ Z9, Z9 = (oM_feeds w_102 w_94 f_30 v_58).2 := ⟨_, rfl⟩
          have qqw_112 : Y_106 = setRow (setRow (setRow (setRow X 15 (X.1 15)) 16 w_102) 20 w_94) 16 w_112 := by rw [h_104, ew_112]
          have hW_113 : Wd G (setRow (setRow (setRow X 15 (X.1 15)) 16 w_112) 20 w_94) H_107 := Wd.cast ((qqw_112).trans (congrArg (fun Z9 => Z9) (sr_in (by decide) sr_out))) hW_109
          exact g_iret C hr hlk hW_113 hS_110 dX8_backs_94 (by subst ew_112; subst ew_102; subst ew_94; subst ew_93; subst ev_58; subst ev_47; exact ⟨(by first | rfl | (simp only [oM_backs, clf (show f_20 < 2 ^ 31 by omega), clf (show f_30 < 2 ^ 31 by omega), b_9, b_29, b_61, b_78, if_true, if_false]; first | done | rfl)), (by first | rfl | (simp only [oM_backs, clf (show f_20 < 2 ^ 31 by omega), clf (show f_30 < 2 ^ 31 by omega), b_9, b_29, b_61, b_78, if_true, if_false]; first | done | rfl))⟩)
        · refine lv_aload_n hx hb dX8_backs_67 rfl (lv_at hl_60 2 rfl) ?_
          refine lv_iconst (v := 3) hx hb dX8_backs_68 (by decide) ?_
          refine g_calli (va_runV (As := [.int 3]) (rest := []) C.1 (cX8_fail_ok l G (setRow (setRow (setRow X 15 (X.1 15)) 16 (X.1 16)) 20 (X.1 20)) 3) (cwV 1 C.1.2.2.2.2 (gV qw_1571 qw_1573 qw_31 qw_81 qw_1574) rfl rfl rfl (by decide +kernel) ⟨Nat.le_of_ble_eq_true rfl, Nat.le_of_ble_eq_true rfl⟩) (g_rModel C hW_75 hS_76 [.int 3]) rfl rfl hl_60.1 rfl (lv_room (Nat.le_of_ble_eq_true rfl)) dX8_backs_69 ⟨Nat.zero_le _, Nat.zero_le _⟩) hS_76 (fun r_115 Y_116 H_117 locs_118 hW_119 hS_120 h_114 => ?_)
          obtain ⟨h_121, h_114⟩ := h_114
          replace h_121 : r_115 = (oM_fail (X.1 15) 3).1 := h_121
          subst h_121
          replace h_114 : Y_116 = setRow (setRow (setRow (setRow X 15 (X.1 15)) 16 (X.1 16)) 20 (X.1 20)) 15 ((oM_fail (X.1 15) 3).2) := h_114
          obtain ⟨w_122, ew_122⟩ : ∃ Z9, Z9 = (oM_fail (X.1 15) 3).2 := ⟨_, rfl⟩
          have qqw_122 : Y_116 = setRow (setRow (setRow (setRow X 15 (X.1 15)) 16 (X.1 16)) 20 (X.1 20)) 15 w_122 := by rw [h_114, ew_122]
          have hW_123 : Wd G (setRow (setRow (setRow X 15 w_122) 16 (X.1 16)) 20 (X.1 20)) H_117 := Wd.cast ((qqw_122).trans (congrArg (fun Z9 => Z9) (sr_in (by decide) (sr_in (by decide) sr_out)))) hW_119
          exact g_iret C hr hlk hW_123 hS_120 dX8_backs_72 (by subst ew_122; subst ev_58; subst ev_47; exact ⟨(by first | rfl | (simp only [oM_backs, clf (show f_20 < 2 ^ 31 by omega), clf (show f_30 < 2 ^ 31 by omega), b_9, b_29, b_61, b_78, if_true, if_false]; first | done | rfl)), (by first | rfl | (simp only [oM_backs, clf (show f_20 < 2 ^ 31 by omega), clf (show f_30 < 2 ^ 31 by omega), b_9, b_29, b_61, b_78, if_true, if_false]; first | done | rfl))⟩)
      · refine lv_aload_n hx hb dX8_backs_46 rfl (lv_at hl_60 2 rfl) ?_
        refine lv_iconst (v := 2) hx hb dX8_backs_47 (by decide) ?_
        refine g_calli (va_runV (As := [.int 2]) (rest := []) C.1 (cX8_fail_ok l G (setRow (setRow (setRow X 15 (X.1 15)) 16 (X.1 16)) 20 (X.1 20)) 2) (cwV 1 C.1.2.2.2.2 (gV qw_1571 qw_1573 qw_31 qw_81 qw_1574) rfl rfl rfl (by decide +kernel) ⟨Nat.le_of_ble_eq_true rfl, Nat.le_of_ble_eq_true rfl⟩) (g_rModel C hW_55 hS_56 [.int 2]) rfl rfl hl_60.1 rfl (lv_room (Nat.le_of_ble_eq_true rfl)) dX8_backs_48 ⟨Nat.zero_le _, Nat.zero_le _⟩) hS_56 (fun r_125 Y_126 H_127 locs_128 hW_129 hS_130 h_124 => ?_)
        obtain ⟨h_131, h_124⟩ := h_124
        replace h_131 : r_125 = (oM_fail (X.1 15) 2).1 := h_131
        subst h_131
        replace h_124 : Y_126 = setRow (setRow (setRow (setRow X 15 (X.1 15)) 16 (X.1 16)) 20 (X.1 20)) 15 ((oM_fail (X.1 15) 2).2) := h_124
        obtain ⟨w_132, ew_132⟩ : ∃ Z9, Z9 = (oM_fail (X.1 15) 2).2 := ⟨_, rfl⟩
        have qqw_132 : Y_126 = setRow (setRow (setRow (setRow X 15 (X.1 15)) 16 (X.1 16)) 20 (X.1 20)) 15 w_132 := by rw [h_124, ew_132]
        have hW_133 : Wd G (setRow (setRow (setRow X 15 w_132) 16 (X.1 16)) 20 (X.1 20)) H_127 := Wd.cast ((qqw_132).trans (congrArg (fun Z9 => Z9) (sr_in (by decide) (sr_in (by decide) sr_out)))) hW_129
        exact g_iret C hr hlk hW_133 hS_130 dX8_backs_51 (by subst ew_132; subst ev_58; subst ev_47; exact ⟨(by first | rfl | (simp only [oM_backs, clf (show f_20 < 2 ^ 31 by omega), clf (show f_30 < 2 ^ 31 by omega), b_9, b_29, eq_true b_61, if_true, if_false]; first | done | rfl)), (by first | rfl | (simp only [oM_backs, clf (show f_20 < 2 ^ 31 by omega), clf (show f_30 < 2 ^ 31 by omega), b_9, b_29, eq_true b_61, if_true, if_false]; first | done | rfl))⟩)
    · refine lv_aload_n hx hb dX8_backs_14 rfl (lv_at hl 0 rfl) ?_
      refine lv_iconst (v := 1) hx hb dX8_backs_15 (by decide) ?_
      refine g_calli (va_runV (As := [.int 1]) (rest := []) C.1 (cX8_fail_ok l G (setRow (setRow (setRow X 15 (X.1 15)) 16 (X.1 16)) 20 (X.1 20)) 1) (cwV 1 C.1.2.2.2.2 (gV qw_1571 qw_1573 qw_31 qw_81 qw_1574) rfl rfl rfl (by decide +kernel) ⟨Nat.le_of_ble_eq_true rfl, Nat.le_of_ble_eq_true rfl⟩) (g_rModel C hW_26 hS_27 [.int 1]) rfl rfl hl.1 rfl (lv_room (Nat.le_of_ble_eq_true rfl)) dX8_backs_16 ⟨Nat.zero_le _, Nat.zero_le _⟩) hS_27 (fun r_135 Y_136 H_137 locs_138 hW_139 hS_140 h_134 => ?_)
      obtain ⟨h_141, h_134⟩ := h_134
      replace h_141 : r_135 = (oM_fail (X.1 15) 1).1 := h_141
      subst h_141
      replace h_134 : Y_136 = setRow (setRow (setRow (setRow X 15 (X.1 15)) 16 (X.1 16)) 20 (X.1 20)) 15 ((oM_fail (X.1 15) 1).2) := h_134
      obtain ⟨w_142, ew_142⟩ : ∃ Z9, Z9 = (oM_fail (X.1 15) 1).2 := ⟨_, rfl⟩
      have qqw_142 : Y_136 = setRow (setRow (setRow (setRow X 15 (X.1 15)) 16 (X.1 16)) 20 (X.1 20)) 15 w_142 := by rw [h_134, ew_142]
      have hW_143 : Wd G (setRow (setRow (setRow X 15 w_142) 16 (X.1 16)) 20 (X.1 20)) H_137 := Wd.cast ((qqw_142).trans (congrArg (fun Z9 => Z9) (sr_in (by decide) (sr_in (by decide) sr_out)))) hW_139
      exact g_iret C hr hlk hW_143 hS_140 dX8_backs_19 (by subst ew_142; exact ⟨(by first | rfl | (simp only [oM_backs, clf (show f_20 < 2 ^ 31 by omega), b_9, eq_true b_29, if_true, if_false]; first | done | rfl)), (by first | rfl | (simp only [oM_backs, clf (show f_20 < 2 ^ 31 by omega), b_9, eq_true b_29, if_true, if_false]; first | done | rfl))⟩)

def oM_addsMould (w15 : Nat → Int32) (w16 : Nat → Int32) (volume : Int32) : Int32 × ((Nat → Int32) × (Nat → Int32)) := if oM_isIn volume 1 40 = 0 then ((oM_fail (w15) 1).1, ((oM_fail (w15) 1).2), w16) else (if w16 42 = 6 then ((oM_fail (w15) 2).1, ((oM_fail (w15) 2).2), w16) else (w16 42, w15, (upd (upd (upd (upd (upd (upd (upd (w16) (44 + 6 * ((w16 42).toNatClampNeg)) 0) ((44 + 6 * ((w16 42).toNatClampNeg)) + 1) 0) ((44 + 6 * ((w16 42).toNatClampNeg)) + 2) 0) ((44 + 6 * ((w16 42).toNatClampNeg)) + 3) 0) ((44 + 6 * ((w16 42).toNatClampNeg)) + 4) volume) ((44 + 6 * ((w16 42).toNatClampNeg)) + 5) 0) (42) (nI (((w16 42).toNatClampNeg) + 1)))))
set_option maxHeartbeats 4000000 in
set_option maxRecDepth 100000 in
theorem cX8_addsMould_ok (l : Launch) (G : GT) (X : St) (volume : Int32) (hm : MInv (X.1 16)) : MetI l G yX8_addsMould (wsG yX8_addsMould cX8_addsMould 4 (some .int)) (rmz 1 22) [.ref (ad G 723), .int volume] X (fun res Y => res = (oM_addsMould (X.1 15) (X.1 16) volume).1 ∧ Y = setRow (setRow (X) 15 ((oM_addsMould (X.1 15) (X.1 16) volume).2.1)) 16 ((oM_addsMould (X.1 15) (X.1 16) volume).2.2)) := by
  refine g_met (cc := cX8_addsMould) (maxL := 4) (ret := (some .int)) (by decide) rfl (Nat.le_of_ble_eq_true rfl) ?_
  intro p e s m below meth c ls C hr hlk hnm hW hl
  have hx := C.1.1
  have hb := C.1.2.1
  have hS : va_S (Ab G) s.heap s.heap [] := va_S.rf
  have hl : lv_has ls 4 [(0, .ref (ad G 723)), (1, .int volume)] := hl
  have hW : Wd G (setRow (setRow (X) 15 (X.1 15)) 16 (X.1 16)) s.heap := Wd.cast (((sr_same (X := setRow (X) 15 (X.1 15)) (r := 16) rfl).trans (sr_same (X := X) (r := 15) rfl))).symm hW
  obtain ⟨km, hkm, em, hmm⟩ := hm.2.2.1
  obtain ⟨ki, hki, ei, hii⟩ := hm.2.2.2.1
  refine lv_iload_n hx hb dX8_addsMould_0 rfl (lv_at hl 1 rfl) ?_
  refine lv_iconst (v := 1) hx hb dX8_addsMould_1 (by decide) ?_
  refine lv_bipush (v := 40) hx hb dX8_addsMould_2 (by decide) ?_
  refine g_calli (va_runS (As := [.int volume, .int 1, .int 40]) (rest := []) C.1 (cX8_isIn_ok l G (setRow (setRow X 15 (X.1 15)) 16 (X.1 16)) volume 1 40) (va_cwS 3 C.1.2.2.2.2 (gS qw_1568 qw_1569 qw_81 qw_1570) rfl rfl rfl (by decide +kernel) ⟨Nat.le_of_ble_eq_true rfl, Nat.le_of_ble_eq_true rfl⟩) (g_pre C hW hS [.int volume, .int 1, .int 40]) rfl rfl hl.1 rfl (lv_room (Nat.le_of_ble_eq_true rfl)) dX8_addsMould_4 ⟨Nat.zero_le _, Nat.zero_le _⟩) hS (fun r_2 Y_3 H_4 locs_5 hW_6 hS_7 h_1 => ?_)
  obtain ⟨h_1, hy_8⟩ := h_1
  replace hy_8 := hy_8.symm
  subst hy_8
  replace h_1 : r_2 = oM_isIn volume 1 40 := h_1
  subst h_1
  refine lv_if_ne (tgt := 16) hx hb dX8_addsMould_7 (by decide) (fun b_9 => ?_) (fun b_9 => ?_)
  · refine lv_aload_n hx hb dX8_addsMould_16 rfl (lv_at hl 0 rfl) ?_
    refine gM_v C hW_6 (hwc hwX8) (mc qw_1481) dX8_addsMould_17 ?_
    refine lv_bipush (v := 42) hx hb dX8_addsMould_20 (by decide) ?_
    refine gm_vld C hW_6 42 (by decide) (vlit (by decide)) dX8_addsMould_22 ?_
    refine g_top (y := X.1 16 (42)) (congrFun rd_out _) ?_
    refine g_top (y := nI km) em ?_
    refine lv_istore_n (lv' := [(2, .int (nI km)), (0, .ref (ad G 723)), (1, .int volume)]) hx hb dX8_addsMould_23 rfl hl (by decide) rfl (fun ls_10 hl_11 => ?_)
    refine lv_iload_n hx hb dX8_addsMould_24 rfl (lv_at hl_11 0 rfl) ?_
    refine lv_bipush (v := 6) hx hb dX8_addsMould_25 (by decide) ?_
    refine lv_icmp_ne (tgt := 36) hx hb dX8_addsMould_27 (by decide) (fun b_12 => ?_) (fun b_12 => ?_)
    · have hkm6 : km < 6 := Nat.lt_of_le_of_ne hkm (fun q => b_12 (by rw [q]; rfl))
      refine lv_iconst (v := 0) hx hb dX8_addsMould_36 (by decide) ?_
      refine lv_istore_n (lv' := [(3, .int 0), (2, .int (nI km)), (0, .ref (ad G 723)), (1, .int volume)]) hx hb dX8_addsMould_37 rfl hl_11 (by decide) rfl (fun ls_13 hl_14 => ?_)
      refine lv_iload_n hx hb dX8_addsMould_38 rfl (lv_at hl_14 0 rfl) ?_
      refine lv_bipush (v := 6) hx hb dX8_addsMould_39 (by decide) ?_
      refine lv_icmp_ge (tgt := 71) hx hb dX8_addsMould_41 (by decide) (fun h9 => absurd h9 (by decide)) (fun _ => ?_)
      refine lv_aload_n hx hb dX8_addsMould_44 rfl (lv_at hl_14 2 rfl) ?_
      refine gM_v C hW_6 (hwc hwX8) (mc qw_1481) dX8_addsMould_45 ?_
      refine lv_iload_n hx hb dX8_addsMould_48 rfl (lv_at hl_14 1 rfl) ?_
      refine g_calli (va_runS (As := [.int (nI km)]) (rest := [.ref (ad G 724)]) C.1 (cX8_mould_ok l G (setRow (setRow X 15 (X.1 15)) 16 (X.1 16)) (nI km)) (va_cwS 1 C.1.2.2.2.2 (gS qw_1655 qw_1656 qw_81 qw_1657) rfl rfl rfl (by decide +kernel) ⟨Nat.le_of_ble_eq_true rfl, Nat.le_of_ble_eq_true rfl⟩) (g_pre C hW_6 hS_7 [.int (nI km)]) rfl rfl hl_14.1 rfl (lv_room (Nat.le_of_ble_eq_true rfl)) dX8_addsMould_49 ⟨Nat.zero_le _, Nat.zero_le _⟩) hS_7 (fun r_16 Y_17 H_18 locs_19 hW_20 hS_21 h_15 => ?_)
      obtain ⟨h_15, hy_22⟩ := h_15
      replace hy_22 := hy_22.symm
      subst hy_22
      replace h_15 : r_16 = oM_mould (nI km) := h_15
      subst h_15
      refine g_top (y := nI (44 + 6 * km)) (at_mould km) ?_
      refine lv_iload_n hx hb dX8_addsMould_52 rfl (lv_at hl_14 0 rfl) ?_
      refine lv_iadd hx hb dX8_addsMould_53 ?_
      refine g_top (y := (nI (44 + 6 * km))) (Int32.add_zero _) ?_
      refine lv_iload_n hx hb dX8_addsMould_54 rfl (lv_at hl_14 0 rfl) ?_
      refine lv_iconst (v := 4) hx hb dX8_addsMould_55 (by decide) ?_
      refine lv_icmp_ne (tgt := 63) hx hb dX8_addsMould_56 (by decide) (fun _ => ?_) (fun h9 => absurd h9 (by decide))
      refine lv_iconst (v := 0) hx hb dX8_addsMould_63 (by decide) ?_
      refine gm_vst C hW_20 hS_21 (44 + 6 * km) (nI_clamp (by omega)) (vp_in_nI (show 44 + 6 * km < 128 by omega) (by decide)) dX8_addsMould_64 (fun H_23 locs_24 hW_25 hS_26 => ?_)
      obtain ⟨w_27, ew_27⟩ : ∃ Z9, Z9 = upd (X.1 16) (44 + 6 * km) 0 := ⟨_, rfl⟩
      have kn_28 : w_27 (42) = nI km := by rw [ew_27]; exact (pk_un (by omega)).trans em
      have kn_29 : w_27 (43) = nI ki := by rw [ew_27]; exact (pk_un (by omega)).trans ei
      have kn_30 : w_27 (44 + 6 * km) = 0 := by rw [ew_27]; exact pk_us
      have hW_31 : Wd G (setRow (setRow X 15 (X.1 15)) 16 w_27) H_23 := Wd.cast (by rw [ew_27]; exact st_out) hW_25
      refine lv_iinc (v := 1) (lv' := [(3, .int 1), (2, .int (nI km)), (0, .ref (ad G 723)), (1, .int volume)]) hx hb dX8_addsMould_65 hl_14 (k := 0) rfl (by decide) (by decide) rfl (fun ls_32 hl_33 => ?_)
      refine lv_goto (tgt := 38) hx hb dX8_addsMould_68 (by decide) ?_
      refine lv_iload_n hx hb dX8_addsMould_38 rfl (lv_at hl_33 0 rfl) ?_
      refine lv_bipush (v := 6) hx hb dX8_addsMould_39 (by decide) ?_
      refine lv_icmp_ge (tgt := 71) hx hb dX8_addsMould_41 (by decide) (fun h9 => absurd h9 (by decide)) (fun _ => ?_)
      refine lv_aload_n hx hb dX8_addsMould_44 rfl (lv_at hl_33 2 rfl) ?_
      refine gM_v C hW_31 (hwc hwX8) (mc qw_1481) dX8_addsMould_45 ?_
      refine lv_iload_n hx hb dX8_addsMould_48 rfl (lv_at hl_33 1 rfl) ?_
      refine g_calli (va_runS (As := [.int (nI km)]) (rest := [.ref (ad G 724)]) C.1 (cX8_mould_ok l G (setRow (setRow X 15 (X.1 15)) 16 w_27) (nI km)) (va_cwS 1 C.1.2.2.2.2 (gS qw_1655 qw_1656 qw_81 qw_1657) rfl rfl rfl (by decide +kernel) ⟨Nat.le_of_ble_eq_true rfl, Nat.le_of_ble_eq_true rfl⟩) (g_pre C hW_31 hS_26 [.int (nI km)]) rfl rfl hl_33.1 rfl (lv_room (Nat.le_of_ble_eq_true rfl)) dX8_addsMould_49 ⟨Nat.zero_le _, Nat.zero_le _⟩) hS_26 (fun r_35 Y_36 H_37 locs_38 hW_39 hS_40 h_34 => ?_)
      obtain ⟨h_34, hy_41⟩ := h_34
      replace hy_41 := hy_41.symm
      subst hy_41
      replace h_34 : r_35 = oM_mould (nI km) := h_34
      subst h_34
      refine g_top (y := nI (44 + 6 * km)) (at_mould km) ?_
      refine lv_iload_n hx hb dX8_addsMould_52 rfl (lv_at hl_33 0 rfl) ?_
      refine lv_iadd hx hb dX8_addsMould_53 ?_
      refine g_top (y := nI ((44 + 6 * km) + 1)) (nI_add (44 + 6 * km) 1) ?_
      refine lv_iload_n hx hb dX8_addsMould_54 rfl (lv_at hl_33 0 rfl) ?_
      refine lv_iconst (v := 4) hx hb dX8_addsMould_55 (by decide) ?_
      refine lv_icmp_ne (tgt := 63) hx hb dX8_addsMould_56 (by decide) (fun _ => ?_) (fun h9 => absurd h9 (by decide))
      refine lv_iconst (v := 0) hx hb dX8_addsMould_63 (by decide) ?_
      refine gm_vst C hW_39 hS_40 ((44 + 6 * km) + 1) (nI_clamp (by omega)) (vp_in_nI (show (44 + 6 * km) + 1 < 128 by omega) (by decide)) dX8_addsMould_64 (fun H_42 locs_43 hW_44 hS_45 => ?_)
      obtain ⟨w_46, ew_46⟩ : ∃ Z9, Z9 = upd w_27 ((44 + 6 * km) + 1) 0 := ⟨_, rfl⟩
      have kn_47 : w_46 (42) = nI km := by rw [ew_46]; exact (pk_un (by omega)).trans kn_28
      have kn_48 : w_46 (43) = nI ki := by rw [ew_46]; exact (pk_un (by omega)).trans kn_29
      have kn_49 : w_46 (44 + 6 * km) = 0 := by rw [ew_46]; exact (pk_un (by omega)).trans kn_30
      have kn_50 : w_46 ((44 + 6 * km) + 1) = 0 := by rw [ew_46]; exact pk_us
      have hW_51 : Wd G (setRow (setRow X 15 (X.1 15)) 16 w_46) H_42 := Wd.cast (by rw [ew_46]; exact st_out) hW_44
      refine lv_iinc (v := 2) (lv' := [(3, .int 2), (2, .int (nI km)), (0, .ref (ad G 723)), (1, .int volume)]) hx hb dX8_addsMould_65 hl_33 (k := 0) rfl (by decide) (by decide) rfl (fun ls_52 hl_53 => ?_)
      refine lv_goto (tgt := 38) hx hb dX8_addsMould_68 (by decide) ?_
      refine lv_iload_n hx hb dX8_addsMould_38 rfl (lv_at hl_53 0 rfl) ?_
      refine lv_bipush (v := 6) hx hb dX8_addsMould_39 (by decide) ?_
      refine lv_icmp_ge (tgt := 71) hx hb dX8_addsMould_41 (by decide) (fun h9 => absurd h9 (by decide)) (fun _ => ?_)
      refine lv_aload_n hx hb dX8_addsMould_44 rfl (lv_at hl_53 2 rfl) ?_
      refine gM_v C hW_51 (hwc hwX8) (mc qw_1481) dX8_addsMould_45 ?_
      refine lv_iload_n hx hb dX8_addsMould_48 rfl (lv_at hl_53 1 rfl) ?_
      refine g_calli (va_runS (As := [.int (nI km)]) (rest := [.ref (ad G 724)]) C.1 (cX8_mould_ok l G (setRow (setRow X 15 (X.1 15)) 16 w_46) (nI km)) (va_cwS 1 C.1.2.2.2.2 (gS qw_1655 qw_1656 qw_81 qw_1657) rfl rfl rfl (by decide +kernel) ⟨Nat.le_of_ble_eq_true rfl, Nat.le_of_ble_eq_true rfl⟩) (g_pre C hW_51 hS_45 [.int (nI km)]) rfl rfl hl_53.1 rfl (lv_room (Nat.le_of_ble_eq_true rfl)) dX8_addsMould_49 ⟨Nat.zero_le _, Nat.zero_le _⟩) hS_45 (fun r_55 Y_56 H_57 locs_58 hW_59 hS_60 h_54 => ?_)
      obtain ⟨h_54, hy_61⟩ := h_54
      replace hy_61 := hy_61.symm
      subst hy_61
      replace h_54 : r_55 = oM_mould (nI km) := h_54
      subst h_54
      refine g_top (y := nI (44 + 6 * km)) (at_mould km) ?_
      refine lv_iload_n hx hb dX8_addsMould_52 rfl (lv_at hl_53 0 rfl) ?_
      refine lv_iadd hx hb dX8_addsMould_53 ?_
      refine g_top (y := nI ((44 + 6 * km) + 2)) (nI_add (44 + 6 * km) 2) ?_
      refine lv_iload_n hx hb dX8_addsMould_54 rfl (lv_at hl_53 0 rfl) ?_
      refine lv_iconst (v := 4) hx hb dX8_addsMould_55 (by decide) ?_
      refine lv_icmp_ne (tgt := 63) hx hb dX8_addsMould_56 (by decide) (fun _ => ?_) (fun h9 => absurd h9 (by decide))
      refine lv_iconst (v := 0) hx hb dX8_addsMould_63 (by decide) ?_
      refine gm_vst C hW_59 hS_60 ((44 + 6 * km) + 2) (nI_clamp (by omega)) (vp_in_nI (show (44 + 6 * km) + 2 < 128 by omega) (by decide)) dX8_addsMould_64 (fun H_62 locs_63 hW_64 hS_65 => ?_)
      obtain ⟨w_66, ew_66⟩ : ∃ Z9, Z9 = upd w_46 ((44 + 6 * km) + 2) 0 := ⟨_, rfl⟩
      have kn_67 : w_66 (42) = nI km := by rw [ew_66]; exact (pk_un (by omega)).trans kn_47
      have kn_68 : w_66 (43) = nI ki := by rw [ew_66]; exact (pk_un (by omega)).trans kn_48
      have kn_69 : w_66 (44 + 6 * km) = 0 := by rw [ew_66]; exact (pk_un (by omega)).trans kn_49
      have kn_70 : w_66 ((44 + 6 * km) + 1) = 0 := by rw [ew_66]; exact (pk_un (by omega)).trans kn_50
      have kn_71 : w_66 ((44 + 6 * km) + 2) = 0 := by rw [ew_66]; exact pk_us
      have hW_72 : Wd G (setRow (setRow X 15 (X.1 15)) 16 w_66) H_62 := Wd.cast (by rw [ew_66]; exact st_out) hW_64
      refine lv_iinc (v := 3) (lv' := [(3, .int 3), (2, .int (nI km)), (0, .ref (ad G 723)), (1, .int volume)]) hx hb dX8_addsMould_65 hl_53 (k := 0) rfl (by decide) (by decide) rfl (fun ls_73 hl_74 => ?_)
      refine lv_goto (tgt := 38) hx hb dX8_addsMould_68 (by decide) ?_
      refine lv_iload_n hx hb dX8_addsMould_38 rfl (lv_at hl_74 0 rfl) ?_
      refine lv_bipush (v := 6) hx hb dX8_addsMould_39 (by decide) ?_
      refine lv_icmp_ge (tgt := 71) hx hb dX8_addsMould_41 (by decide) (fun h9 => absurd h9 (by decide)) (fun _ => ?_)
      refine lv_aload_n hx hb dX8_addsMould_44 rfl (lv_at hl_74 2 rfl) ?_
      refine gM_v C hW_72 (hwc hwX8) (mc qw_1481) dX8_addsMould_45 ?_
      refine lv_iload_n hx hb dX8_addsMould_48 rfl (lv_at hl_74 1 rfl) ?_
      refine g_calli (va_runS (As := [.int (nI km)]) (rest := [.ref (ad G 724)]) C.1 (cX8_mould_ok l G (setRow (setRow X 15 (X.1 15)) 16 w_66) (nI km)) (va_cwS 1 C.1.2.2.2.2 (gS qw_1655 qw_1656 qw_81 qw_1657) rfl rfl rfl (by decide +kernel) ⟨Nat.le_of_ble_eq_true rfl, Nat.le_of_ble_eq_true rfl⟩) (g_pre C hW_72 hS_65 [.int (nI km)]) rfl rfl hl_74.1 rfl (lv_room (Nat.le_of_ble_eq_true rfl)) dX8_addsMould_49 ⟨Nat.zero_le _, Nat.zero_le _⟩) hS_65 (fun r_76 Y_77 H_78 locs_79 hW_80 hS_81 h_75 => ?_)
      obtain ⟨h_75, hy_82⟩ := h_75
      replace hy_82 := hy_82.symm
      subst hy_82
      replace h_75 : r_76 = oM_mould (nI km) := h_75
      subst h_75
      refine g_top (y := nI (44 + 6 * km)) (at_mould km) ?_
      refine lv_iload_n hx hb dX8_addsMould_52 rfl (lv_at hl_74 0 rfl) ?_
      refine lv_iadd hx hb dX8_addsMould_53 ?_
      refine g_top (y := nI ((44 + 6 * km) + 3)) (nI_add (44 + 6 * km) 3) ?_
      refine lv_iload_n hx hb dX8_addsMould_54 rfl (lv_at hl_74 0 rfl) ?_
      refine lv_iconst (v := 4) hx hb dX8_addsMould_55 (by decide) ?_
      refine lv_icmp_ne (tgt := 63) hx hb dX8_addsMould_56 (by decide) (fun _ => ?_) (fun h9 => absurd h9 (by decide))
      refine lv_iconst (v := 0) hx hb dX8_addsMould_63 (by decide) ?_
      refine gm_vst C hW_80 hS_81 ((44 + 6 * km) + 3) (nI_clamp (by omega)) (vp_in_nI (show (44 + 6 * km) + 3 < 128 by omega) (by decide)) dX8_addsMould_64 (fun H_83 locs_84 hW_85 hS_86 => ?_)
      obtain ⟨w_87, ew_87⟩ : ∃ Z9, Z9 = upd w_66 ((44 + 6 * km) + 3) 0 := ⟨_, rfl⟩
      have kn_88 : w_87 (42) = nI km := by rw [ew_87]; exact (pk_un (by omega)).trans kn_67
      have kn_89 : w_87 (43) = nI ki := by rw [ew_87]; exact (pk_un (by omega)).trans kn_68
      have kn_90 : w_87 (44 + 6 * km) = 0 := by rw [ew_87]; exact (pk_un (by omega)).trans kn_69
      have kn_91 : w_87 ((44 + 6 * km) + 1) = 0 := by rw [ew_87]; exact (pk_un (by omega)).trans kn_70
      have kn_92 : w_87 ((44 + 6 * km) + 2) = 0 := by rw [ew_87]; exact (pk_un (by omega)).trans kn_71
      have kn_93 : w_87 ((44 + 6 * km) + 3) = 0 := by rw [ew_87]; exact pk_us
      have hW_94 : Wd G (setRow (setRow X 15 (X.1 15)) 16 w_87) H_83 := Wd.cast (by rw [ew_87]; exact st_out) hW_85
      refine lv_iinc (v := 4) (lv' := [(3, .int 4), (2, .int (nI km)), (0, .ref (ad G 723)), (1, .int volume)]) hx hb dX8_addsMould_65 hl_74 (k := 0) rfl (by decide) (by decide) rfl (fun ls_95 hl_96 => ?_)
      refine lv_goto (tgt := 38) hx hb dX8_addsMould_68 (by decide) ?_
      refine lv_iload_n hx hb dX8_addsMould_38 rfl (lv_at hl_96 0 rfl) ?_
      refine lv_bipush (v := 6) hx hb dX8_addsMould_39 (by decide) ?_
      refine lv_icmp_ge (tgt := 71) hx hb dX8_addsMould_41 (by decide) (fun h9 => absurd h9 (by decide)) (fun _ => ?_)
      refine lv_aload_n hx hb dX8_addsMould_44 rfl (lv_at hl_96 2 rfl) ?_
      refine gM_v C hW_94 (hwc hwX8) (mc qw_1481) dX8_addsMould_45 ?_
      refine lv_iload_n hx hb dX8_addsMould_48 rfl (lv_at hl_96 1 rfl) ?_
      refine g_calli (va_runS (As := [.int (nI km)]) (rest := [.ref (ad G 724)]) C.1 (cX8_mould_ok l G (setRow (setRow X 15 (X.1 15)) 16 w_87) (nI km)) (va_cwS 1 C.1.2.2.2.2 (gS qw_1655 qw_1656 qw_81 qw_1657) rfl rfl rfl (by decide +kernel) ⟨Nat.le_of_ble_eq_true rfl, Nat.le_of_ble_eq_true rfl⟩) (g_pre C hW_94 hS_86 [.int (nI km)]) rfl rfl hl_96.1 rfl (lv_room (Nat.le_of_ble_eq_true rfl)) dX8_addsMould_49 ⟨Nat.zero_le _, Nat.zero_le _⟩) hS_86 (fun r_98 Y_99 H_100 locs_101 hW_102 hS_103 h_97 => ?_)
      obtain ⟨h_97, hy_104⟩ := h_97
      replace hy_104 := hy_104.symm
      subst hy_104
      replace h_97 : r_98 = oM_mould (nI km) := h_97
      subst h_97
      refine g_top (y := nI (44 + 6 * km)) (at_mould km) ?_
      refine lv_iload_n hx hb dX8_addsMould_52 rfl (lv_at hl_96 0 rfl) ?_
      refine lv_iadd hx hb dX8_addsMould_53 ?_
      refine g_top (y := nI ((44 + 6 * km) + 4)) (nI_add (44 + 6 * km) 4) ?_
      refine lv_iload_n hx hb dX8_addsMould_54 rfl (lv_at hl_96 0 rfl) ?_
      refine lv_iconst (v := 4) hx hb dX8_addsMould_55 (by decide) ?_
      refine lv_icmp_ne (tgt := 63) hx hb dX8_addsMould_56 (by decide) (fun h9 => absurd h9 (by decide)) (fun _ => ?_)
      refine lv_iload_n hx hb dX8_addsMould_59 rfl (lv_at hl_96 3 rfl) ?_
      refine lv_goto (tgt := 64) hx hb dX8_addsMould_60 (by decide) ?_
      refine gm_vst C hW_102 hS_103 ((44 + 6 * km) + 4) (nI_clamp (by omega)) (vp_in_nI (show (44 + 6 * km) + 4 < 128 by omega) (by decide)) dX8_addsMould_64 (fun H_105 locs_106 hW_107 hS_108 => ?_)
      obtain ⟨w_109, ew_109⟩ : ∃ Z9, Z9 = upd w_87 ((44 + 6 * km) + 4) volume := ⟨_, rfl⟩
      have kn_110 : w_109 (42) = nI km := by rw [ew_109]; exact (pk_un (by omega)).trans kn_88
      have kn_111 : w_109 (43) = nI ki := by rw [ew_109]; exact (pk_un (by omega)).trans kn_89
      have kn_112 : w_109 (44 + 6 * km) = 0 := by rw [ew_109]; exact (pk_un (by omega)).trans kn_90
      have kn_113 : w_109 ((44 + 6 * km) + 1) = 0 := by rw [ew_109]; exact (pk_un (by omega)).trans kn_91
      have kn_114 : w_109 ((44 + 6 * km) + 2) = 0 := by rw [ew_109]; exact (pk_un (by omega)).trans kn_92
      have kn_115 : w_109 ((44 + 6 * km) + 3) = 0 := by rw [ew_109]; exact (pk_un (by omega)).trans kn_93
      have hW_116 : Wd G (setRow (setRow X 15 (X.1 15)) 16 w_109) H_105 := Wd.cast (by rw [ew_109]; exact st_out) hW_107
      refine lv_iinc (v := 5) (lv' := [(3, .int 5), (2, .int (nI km)), (0, .ref (ad G 723)), (1, .int volume)]) hx hb dX8_addsMould_65 hl_96 (k := 0) rfl (by decide) (by decide) rfl (fun ls_117 hl_118 => ?_)
      refine lv_goto (tgt := 38) hx hb dX8_addsMould_68 (by decide) ?_
      refine lv_iload_n hx hb dX8_addsMould_38 rfl (lv_at hl_118 0 rfl) ?_
      refine lv_bipush (v := 6) hx hb dX8_addsMould_39 (by decide) ?_
      refine lv_icmp_ge (tgt := 71) hx hb dX8_addsMould_41 (by decide) (fun h9 => absurd h9 (by decide)) (fun _ => ?_)
      refine lv_aload_n hx hb dX8_addsMould_44 rfl (lv_at hl_118 2 rfl) ?_
      refine gM_v C hW_116 (hwc hwX8) (mc qw_1481) dX8_addsMould_45 ?_
      refine lv_iload_n hx hb dX8_addsMould_48 rfl (lv_at hl_118 1 rfl) ?_
      refine g_calli (va_runS (As := [.int (nI km)]) (rest := [.ref (ad G 724)]) C.1 (cX8_mould_ok l G (setRow (setRow X 15 (X.1 15)) 16 w_109) (nI km)) (va_cwS 1 C.1.2.2.2.2 (gS qw_1655 qw_1656 qw_81 qw_1657) rfl rfl rfl (by decide +kernel) ⟨Nat.le_of_ble_eq_true rfl, Nat.le_of_ble_eq_true rfl⟩) (g_pre C hW_116 hS_108 [.int (nI km)]) rfl rfl hl_118.1 rfl (lv_room (Nat.le_of_ble_eq_true rfl)) dX8_addsMould_49 ⟨Nat.zero_le _, Nat.zero_le _⟩) hS_108 (fun r_120 Y_121 H_122 locs_123 hW_124 hS_125 h_119 => ?_)
      obtain ⟨h_119, hy_126⟩ := h_119
      replace hy_126 := hy_126.symm
      subst hy_126
      replace h_119 : r_120 = oM_mould (nI km) := h_119
      subst h_119
      refine g_top (y := nI (44 + 6 * km)) (at_mould km) ?_
      refine lv_iload_n hx hb dX8_addsMould_52 rfl (lv_at hl_118 0 rfl) ?_
      refine lv_iadd hx hb dX8_addsMould_53 ?_
      refine g_top (y := nI ((44 + 6 * km) + 5)) (nI_add (44 + 6 * km) 5) ?_
      refine lv_iload_n hx hb dX8_addsMould_54 rfl (lv_at hl_118 0 rfl) ?_
      refine lv_iconst (v := 4) hx hb dX8_addsMould_55 (by decide) ?_
      refine lv_icmp_ne (tgt := 63) hx hb dX8_addsMould_56 (by decide) (fun _ => ?_) (fun h9 => absurd h9 (by decide))
      refine lv_iconst (v := 0) hx hb dX8_addsMould_63 (by decide) ?_
      refine gm_vst C hW_124 hS_125 ((44 + 6 * km) + 5) (nI_clamp (by omega)) (vp_in_nI (show (44 + 6 * km) + 5 < 128 by omega) (by decide)) dX8_addsMould_64 (fun H_127 locs_128 hW_129 hS_130 => ?_)
      obtain ⟨w_131, ew_131⟩ : ∃ Z9, Z9 = upd w_109 ((44 + 6 * km) + 5) 0 := ⟨_, rfl⟩
      have kn_132 : w_131 (42) = nI km := by rw [ew_131]; exact (pk_un (by omega)).trans kn_110
      have kn_133 : w_131 (43) = nI ki := by rw [ew_131]; exact (pk_un (by omega)).trans kn_111
      have kn_134 : w_131 (44 + 6 * km) = 0 := by rw [ew_131]; exact (pk_un (by omega)).trans kn_112
      have kn_135 : w_131 ((44 + 6 * km) + 1) = 0 := by rw [ew_131]; exact (pk_un (by omega)).trans kn_113
      have kn_136 : w_131 ((44 + 6 * km) + 2) = 0 := by rw [ew_131]; exact (pk_un (by omega)).trans kn_114
      have kn_137 : w_131 ((44 + 6 * km) + 3) = 0 := by rw [ew_131]; exact (pk_un (by omega)).trans kn_115
      have kn_138 : w_131 ((44 + 6 * km) + 5) = 0 := by rw [ew_131]; exact pk_us
      have hW_139 : Wd G (setRow (setRow X 15 (X.1 15)) 16 w_131) H_127 := Wd.cast (by rw [ew_131]; exact st_out) hW_129
      refine lv_iinc (v := 6) (lv' := [(3, .int 6), (2, .int (nI km)), (0, .ref (ad G 723)), (1, .int volume)]) hx hb dX8_addsMould_65 hl_118 (k := 0) rfl (by decide) (by decide) rfl (fun ls_140 hl_141 => ?_)
      refine lv_goto (tgt := 38) hx hb dX8_addsMould_68 (by decide) ?_
      refine lv_iload_n hx hb dX8_addsMould_38 rfl (lv_at hl_141 0 rfl) ?_
      refine lv_bipush (v := 6) hx hb dX8_addsMould_39 (by decide) ?_
      refine lv_icmp_ge (tgt := 71) hx hb dX8_addsMould_41 (by decide) (fun _ => ?_) (fun h9 => absurd h9 (by decide))
      refine lv_aload_n hx hb dX8_addsMould_71 rfl (lv_at hl_141 2 rfl) ?_
      refine gM_v C hW_139 (hwc hwX8) (mc qw_1481) dX8_addsMould_72 ?_
      refine lv_bipush (v := 42) hx hb dX8_addsMould_75 (by decide) ?_
      refine lv_dup2_11 hx hb dX8_addsMould_77 rfl rfl ?_
      refine gm_vld C hW_139 42 (by decide) (vlit (by decide)) dX8_addsMould_78 ?_
      refine g_top (y := w_131 (42)) (congrFun rd_out _) ?_
      refine g_top (y := nI km) kn_132 ?_
      refine lv_iconst (v := 1) hx hb dX8_addsMould_79 (by decide) ?_
      refine lv_iadd hx hb dX8_addsMould_80 ?_
      refine g_top (y := nI (km + 1)) (nI_add km 1) ?_
      refine gm_vst C hW_139 hS_130 42 (by decide) (vlit (by decide)) dX8_addsMould_81 (fun H_142 locs_143 hW_144 hS_145 => ?_)
      obtain ⟨w_146, ew_146⟩ : ∃ Z9, Z9 = upd w_131 (42) (nI (km + 1)) := ⟨_, rfl⟩
      have kn_147 : w_146 (43) = nI ki := by rw [ew_146]; exact (pk_un (by omega)).trans kn_133
      have kn_148 : w_146 (44 + 6 * km) = 0 := by rw [ew_146]; exact (pk_un (by omega)).trans kn_134
      have kn_149 : w_146 ((44 + 6 * km) + 1) = 0 := by rw [ew_146]; exact (pk_un (by omega)).trans kn_135
      have kn_150 : w_146 ((44 + 6 * km) + 2) = 0 := by rw [ew_146]; exact (pk_un (by omega)).trans kn_136
      have kn_151 : w_146 ((44 + 6 * km) + 3) = 0 := by rw [ew_146]; exact (pk_un (by omega)).trans kn_137
      have kn_152 : w_146 ((44 + 6 * km) + 5) = 0 := by rw [ew_146]; exact (pk_un (by omega)).trans kn_138
      have kn_153 : w_146 (42) = nI (km + 1) := by rw [ew_146]; exact pk_us
      have hW_154 : Wd G (setRow (setRow X 15 (X.1 15)) 16 w_146) H_142 := Wd.cast (by rw [ew_146]; exact st_out) hW_144
      refine lv_iload_n hx hb dX8_addsMould_82 rfl (lv_at hl_141 1 rfl) ?_
      exact g_iret C hr hlk hW_154 hS_145 dX8_addsMould_83 (by subst ew_146; subst ew_131; subst ew_109; subst ew_87; subst ew_66; subst ew_46; subst ew_27; exact ⟨(by first | rfl | (simp only [oM_addsMould, b_9, b_12, if_true, if_false, em, ei, clf (show km < 2 ^ 31 by omega), clf (show ki < 2 ^ 31 by omega), nI_1]; first | done | rfl)), (by first | rfl | (simp only [oM_addsMould, b_9, b_12, if_true, if_false, em, ei, clf (show km < 2 ^ 31 by omega), clf (show ki < 2 ^ 31 by omega), nI_1]; first | done | rfl))⟩)
    · have fb_12 : km = 6 := (nI_eq (a := km) (b := 6) (by omega) (by omega)).mp b_12
      refine lv_aload_n hx hb dX8_addsMould_30 rfl (lv_at hl_11 1 rfl) ?_
      refine lv_iconst (v := 2) hx hb dX8_addsMould_31 (by decide) ?_
      refine g_calli (va_runV (As := [.int 2]) (rest := []) C.1 (cX8_fail_ok l G (setRow (setRow X 15 (X.1 15)) 16 (X.1 16)) 2) (cwV 1 C.1.2.2.2.2 (gV qw_1571 qw_1573 qw_31 qw_81 qw_1574) rfl rfl rfl (by decide +kernel) ⟨Nat.le_of_ble_eq_true rfl, Nat.le_of_ble_eq_true rfl⟩) (g_rModel C hW_6 hS_7 [.int 2]) rfl rfl hl_11.1 rfl (lv_room (Nat.le_of_ble_eq_true rfl)) dX8_addsMould_32 ⟨Nat.zero_le _, Nat.zero_le _⟩) hS_7 (fun r_156 Y_157 H_158 locs_159 hW_160 hS_161 h_155 => ?_)
      obtain ⟨h_162, h_155⟩ := h_155
      replace h_162 : r_156 = (oM_fail (X.1 15) 2).1 := h_162
      subst h_162
      replace h_155 : Y_157 = setRow (setRow (setRow X 15 (X.1 15)) 16 (X.1 16)) 15 ((oM_fail (X.1 15) 2).2) := h_155
      obtain ⟨w_163, ew_163⟩ : ∃ Z9, Z9 = (oM_fail (X.1 15) 2).2 := ⟨_, rfl⟩
      have qqw_163 : Y_157 = setRow (setRow (setRow X 15 (X.1 15)) 16 (X.1 16)) 15 w_163 := by rw [h_155, ew_163]
      have hW_164 : Wd G (setRow (setRow X 15 w_163) 16 (X.1 16)) H_158 := Wd.cast ((qqw_163).trans (congrArg (fun Z9 => Z9) (sr_in (by decide) sr_out))) hW_160
      exact g_iret C hr hlk hW_164 hS_161 dX8_addsMould_35 (by subst ew_163; exact ⟨(by first | rfl | (simp only [oM_addsMould, b_9, eq_true b_12, if_true, if_false, em, ei, clf (show km < 2 ^ 31 by omega), clf (show ki < 2 ^ 31 by omega), nI_1]; first | done | rfl)), (by first | rfl | (simp only [oM_addsMould, b_9, eq_true b_12, if_true, if_false, em, ei, clf (show km < 2 ^ 31 by omega), clf (show ki < 2 ^ 31 by omega), nI_1]; first | done | rfl))⟩)
  · refine lv_aload_n hx hb dX8_addsMould_10 rfl (lv_at hl 0 rfl) ?_
    refine lv_iconst (v := 1) hx hb dX8_addsMould_11 (by decide) ?_
    refine g_calli (va_runV (As := [.int 1]) (rest := []) C.1 (cX8_fail_ok l G (setRow (setRow X 15 (X.1 15)) 16 (X.1 16)) 1) (cwV 1 C.1.2.2.2.2 (gV qw_1571 qw_1573 qw_31 qw_81 qw_1574) rfl rfl rfl (by decide +kernel) ⟨Nat.le_of_ble_eq_true rfl, Nat.le_of_ble_eq_true rfl⟩) (g_rModel C hW_6 hS_7 [.int 1]) rfl rfl hl.1 rfl (lv_room (Nat.le_of_ble_eq_true rfl)) dX8_addsMould_12 ⟨Nat.zero_le _, Nat.zero_le _⟩) hS_7 (fun r_166 Y_167 H_168 locs_169 hW_170 hS_171 h_165 => ?_)
    obtain ⟨h_172, h_165⟩ := h_165
    replace h_172 : r_166 = (oM_fail (X.1 15) 1).1 := h_172
    subst h_172
    replace h_165 : Y_167 = setRow (setRow (setRow X 15 (X.1 15)) 16 (X.1 16)) 15 ((oM_fail (X.1 15) 1).2) := h_165
    obtain ⟨w_173, ew_173⟩ : ∃ Z9, Z9 = (oM_fail (X.1 15) 1).2 := ⟨_, rfl⟩
    have qqw_173 : Y_167 = setRow (setRow (setRow X 15 (X.1 15)) 16 (X.1 16)) 15 w_173 := by rw [h_165, ew_173]
    have hW_174 : Wd G (setRow (setRow X 15 w_173) 16 (X.1 16)) H_168 := Wd.cast ((qqw_173).trans (congrArg (fun Z9 => Z9) (sr_in (by decide) sr_out))) hW_170
    exact g_iret C hr hlk hW_174 hS_171 dX8_addsMould_15 (by subst ew_173; exact ⟨(by first | rfl | (simp only [oM_addsMould, eq_true b_9, if_true, if_false, em, ei, clf (show km < 2 ^ 31 by omega), clf (show ki < 2 ^ 31 by omega), nI_1]; first | done | rfl)), (by first | rfl | (simp only [oM_addsMould, eq_true b_9, if_true, if_false, em, ei, clf (show km < 2 ^ 31 by omega), clf (show ki < 2 ^ 31 by omega), nI_1]; first | done | rfl))⟩)

def oM_pours (w15 : Nat → Int32) (w16 : Nat → Int32) (w20 : Nat → Int32) (w21 : Nat → Int32) (la : Int32) (mo : Int32) : Int32 × ((Nat → Int32) × ((Nat → Int32) × (Nat → Int32))) := if oM_isThree la = 0 then ((oM_fail (w15) 1).1, ((oM_fail (w15) 1).2), w16, w20) else (if oM_isMould (w16) mo = 0 then ((oM_fail (w15) 1).1, ((oM_fail (w15) 1).2), w16, w20) else (if w16 ((44 + 6 * mo.toNatClampNeg) + 5) = 1 then ((oM_fail (w15) 2).1, ((oM_fail (w15) 2).2), w16, w20) else (if (w16 ((44 + 6 * mo.toNatClampNeg) + 4)) ≤ oM_mass (w16) (27 + 5 * la.toNatClampNeg) then (if oM_isFluid (w16) (w21) (27 + 5 * la.toNatClampNeg) = 0 then ((oM_fail (w15) 4).1, ((oM_fail (w15) 4).2), w16, w20) else (oM_mass (oM_cools (upd (oM_adds ((oM_takes (w16) (w20) (27 + 5 * la.toNatClampNeg) (w16 ((44 + 6 * mo.toNatClampNeg) + 4))).1) ((oM_takes (w16) (w20) (27 + 5 * la.toNatClampNeg) (w16 ((44 + 6 * mo.toNatClampNeg) + 4))).2) (44 + 6 * mo.toNatClampNeg)) ((44 + 6 * mo.toNatClampNeg) + 5) 1) la.toNatClampNeg) (27 + 5 * la.toNatClampNeg), w15, (oM_cools (upd (oM_adds ((oM_takes (w16) (w20) (27 + 5 * la.toNatClampNeg) (w16 ((44 + 6 * mo.toNatClampNeg) + 4))).1) ((oM_takes (w16) (w20) (27 + 5 * la.toNatClampNeg) (w16 ((44 + 6 * mo.toNatClampNeg) + 4))).2) (44 + 6 * mo.toNatClampNeg)) ((44 + 6 * mo.toNatClampNeg) + 5) 1) la.toNatClampNeg), ((oM_takes (w16) (w20) (27 + 5 * la.toNatClampNeg) (w16 ((44 + 6 * mo.toNatClampNeg) + 4))).2))) else ((oM_fail (w15) 3).1, ((oM_fail (w15) 3).2), w16, w20))))
set_option maxHeartbeats 4000000 in
set_option maxRecDepth 100000 in
theorem cX8_pours_ok (l : Launch) (G : GT) (X : St) (la : Int32) (mo : Int32) (hm : MInv (X.1 16)) : MetI l G yX8_pours (wsG yX8_pours cX8_pours 5 (some .int)) (rmz 3 65) [.ref (ad G 723), .int la, .int mo] X (fun res Y => res = (oM_pours (X.1 15) (X.1 16) (X.1 20) (X.1 21) la mo).1 ∧ Y = setRow (setRow (setRow (X) 15 ((oM_pours (X.1 15) (X.1 16) (X.1 20) (X.1 21) la mo).2.1)) 16 ((oM_pours (X.1 15) (X.1 16) (X.1 20) (X.1 21) la mo).2.2.1)) 20 ((oM_pours (X.1 15) (X.1 16) (X.1 20) (X.1 21) la mo).2.2.2)) := by
  refine g_met (cc := cX8_pours) (maxL := 5) (ret := (some .int)) (by decide) rfl (Nat.le_of_ble_eq_true rfl) ?_
  intro p e s m below meth c ls C hr hlk hnm hW hl
  have hx := C.1.1
  have hb := C.1.2.1
  have hS : va_S (Ab G) s.heap s.heap [] := va_S.rf
  have hl : lv_has ls 5 [(0, .ref (ad G 723)), (1, .int la), (2, .int mo)] := hl
  have hW : Wd G (setRow (setRow (setRow (X) 15 (X.1 15)) 16 (X.1 16)) 20 (X.1 20)) s.heap := Wd.cast ((((sr_same (X := setRow (setRow (X) 15 (X.1 15)) 16 (X.1 16)) (r := 20) rfl).trans (sr_same (X := setRow (X) 15 (X.1 15)) (r := 16) rfl)).trans (sr_same (X := X) (r := 15) rfl))).symm hW
  obtain ⟨km, hkm, em, hmm⟩ := hm.2.2.1
  obtain ⟨ki, hki, ei, hii⟩ := hm.2.2.2.1
  refine lv_iload_n hx hb dX8_pours_0 rfl (lv_at hl 1 rfl) ?_
  refine g_calli (va_runS (As := [.int la]) (rest := []) C.1 (cX8_isThree_ok l G (setRow (setRow (setRow X 15 (X.1 15)) 16 (X.1 16)) 20 (X.1 20)) la) (va_cwS 1 C.1.2.2.2.2 (gS qw_1565 qw_1566 qw_81 qw_1567) rfl rfl rfl (by decide +kernel) ⟨Nat.le_of_ble_eq_true rfl, Nat.le_of_ble_eq_true rfl⟩) (g_pre C hW hS [.int la]) rfl rfl hl.1 rfl (lv_room (Nat.le_of_ble_eq_true rfl)) dX8_pours_1 ⟨Nat.zero_le _, Nat.zero_le _⟩) hS (fun r_2 Y_3 H_4 locs_5 hW_6 hS_7 h_1 => ?_)
  obtain ⟨h_1, hy_8⟩ := h_1
  replace hy_8 := hy_8.symm
  subst hy_8
  replace h_1 : r_2 = oM_isThree la := h_1
  subst h_1
  refine lv_if_eq (tgt := 15) hx hb dX8_pours_4 (by decide) (fun b_9 => ?_) (fun b_9 => ?_)
  · refine lv_aload_n hx hb dX8_pours_15 rfl (lv_at hl 0 rfl) ?_
    refine lv_iconst (v := 1) hx hb dX8_pours_16 (by decide) ?_
    refine g_calli (va_runV (As := [.int 1]) (rest := []) C.1 (cX8_fail_ok l G (setRow (setRow (setRow X 15 (X.1 15)) 16 (X.1 16)) 20 (X.1 20)) 1) (cwV 1 C.1.2.2.2.2 (gV qw_1571 qw_1573 qw_31 qw_81 qw_1574) rfl rfl rfl (by decide +kernel) ⟨Nat.le_of_ble_eq_true rfl, Nat.le_of_ble_eq_true rfl⟩) (g_rModel C hW_6 hS_7 [.int 1]) rfl rfl hl.1 rfl (lv_room (Nat.le_of_ble_eq_true rfl)) dX8_pours_17 ⟨Nat.zero_le _, Nat.zero_le _⟩) hS_7 (fun r_11 Y_12 H_13 locs_14 hW_15 hS_16 h_10 => ?_)
    obtain ⟨h_17, h_10⟩ := h_10
    replace h_17 : r_11 = (oM_fail (X.1 15) 1).1 := h_17
    subst h_17
    replace h_10 : Y_12 = setRow (setRow (setRow (setRow X 15 (X.1 15)) 16 (X.1 16)) 20 (X.1 20)) 15 ((oM_fail (X.1 15) 1).2) := h_10
    obtain ⟨w_18, ew_18⟩ : ∃ Z9, Z9 = (oM_fail (X.1 15) 1).2 := ⟨_, rfl⟩
    have qqw_18 : Y_12 = setRow (setRow (setRow (setRow X 15 (X.1 15)) 16 (X.1 16)) 20 (X.1 20)) 15 w_18 := by rw [h_10, ew_18]
    have hW_19 : Wd G (setRow (setRow (setRow X 15 w_18) 16 (X.1 16)) 20 (X.1 20)) H_13 := Wd.cast ((qqw_18).trans (congrArg (fun Z9 => Z9) (sr_in (by decide) (sr_in (by decide) sr_out)))) hW_15
    exact g_iret C hr hlk hW_19 hS_16 dX8_pours_20 (by subst ew_18; exact ⟨(by first | rfl | (simp only [oM_pours, eq_true b_9, if_true, if_false, em, ei, clf (show km < 2 ^ 31 by omega), clf (show ki < 2 ^ 31 by omega)]; first | done | rfl)), (by first | rfl | (simp only [oM_pours, eq_true b_9, if_true, if_false, em, ei, clf (show km < 2 ^ 31 by omega), clf (show ki < 2 ^ 31 by omega)]; first | done | rfl))⟩)
  · obtain ⟨f_20, hf_20, rfl⟩ := three_in b_9
    refine lv_aload_n hx hb dX8_pours_7 rfl (lv_at hl 0 rfl) ?_
    refine lv_iload_n hx hb dX8_pours_8 rfl (lv_at hl 2 rfl) ?_
    refine g_calli (va_runV (As := [.int mo]) (rest := []) C.1 (cX8_isMould_ok l G (setRow (setRow (setRow X 15 (X.1 15)) 16 (X.1 16)) 20 (X.1 20)) mo) (cwV 1 C.1.2.2.2.2 (gV qw_1666 qw_1668 qw_48 qw_81 qw_1669) rfl rfl rfl (by decide +kernel) ⟨Nat.le_of_ble_eq_true rfl, Nat.le_of_ble_eq_true rfl⟩) (g_rModel C hW_6 hS_7 [.int mo]) rfl rfl hl.1 rfl (lv_room (Nat.le_of_ble_eq_true rfl)) dX8_pours_9 ⟨Nat.zero_le _, Nat.zero_le _⟩) hS_7 (fun r_22 Y_23 H_24 locs_25 hW_26 hS_27 h_21 => ?_)
    obtain ⟨h_21, hy_28⟩ := h_21
    replace hy_28 := hy_28.symm
    subst hy_28
    replace h_21 : r_22 = oM_isMould (X.1 16) mo := h_21
    subst h_21
    refine lv_if_ne (tgt := 21) hx hb dX8_pours_12 (by decide) (fun b_29 => ?_) (fun b_29 => ?_)
    · obtain ⟨f_30, hf_30, rfl⟩ := count_in (by omega) em b_29
      refine lv_iload_n hx hb dX8_pours_21 rfl (lv_at hl 2 rfl) ?_
      refine g_calli (va_runS (As := [.int (nI f_30)]) (rest := []) C.1 (cX8_mould_ok l G (setRow (setRow (setRow X 15 (X.1 15)) 16 (X.1 16)) 20 (X.1 20)) (nI f_30)) (va_cwS 1 C.1.2.2.2.2 (gS qw_1655 qw_1656 qw_81 qw_1657) rfl rfl rfl (by decide +kernel) ⟨Nat.le_of_ble_eq_true rfl, Nat.le_of_ble_eq_true rfl⟩) (g_pre C hW_26 hS_27 [.int (nI f_30)]) rfl rfl hl.1 rfl (lv_room (Nat.le_of_ble_eq_true rfl)) dX8_pours_22 ⟨Nat.zero_le _, Nat.zero_le _⟩) hS_27 (fun r_32 Y_33 H_34 locs_35 hW_36 hS_37 h_31 => ?_)
      obtain ⟨h_31, hy_38⟩ := h_31
      replace hy_38 := hy_38.symm
      subst hy_38
      replace h_31 : r_32 = oM_mould (nI f_30) := h_31
      subst h_31
      refine g_top (y := nI (44 + 6 * f_30)) (at_mould f_30) ?_
      refine lv_istore_n (lv' := [(3, .int (nI (44 + 6 * f_30))), (0, .ref (ad G 723)), (1, .int (nI f_20)), (2, .int (nI f_30))]) hx hb dX8_pours_25 rfl hl (by decide) rfl (fun ls_39 hl_40 => ?_)
      refine lv_aload_n hx hb dX8_pours_26 rfl (lv_at hl_40 1 rfl) ?_
      refine gM_v C hW_36 (hwc hwX8) (mc qw_1481) dX8_pours_27 ?_
      refine lv_iload_n hx hb dX8_pours_30 rfl (lv_at hl_40 0 rfl) ?_
      refine lv_iconst (v := 4) hx hb dX8_pours_31 (by decide) ?_
      refine lv_iadd hx hb dX8_pours_32 ?_
      refine g_top (y := nI ((44 + 6 * f_30) + 4)) (nI_add (44 + 6 * f_30) 4) ?_
      refine gm_vld C hW_36 ((44 + 6 * f_30) + 4) (nI_clamp (by omega)) (vp_in_nI (show (44 + 6 * f_30) + 4 < 128 by omega) (by decide)) dX8_pours_33 ?_
      refine g_top (y := X.1 16 ((44 + 6 * f_30) + 4)) (congrFun (rd_in (by decide) rd_out) _) ?_
      refine lv_topi (fun v_41 ev_41 => ?_)
      refine lv_istore (lv' := [(4, .int v_41), (3, .int (nI (44 + 6 * f_30))), (0, .ref (ad G 723)), (1, .int (nI f_20)), (2, .int (nI f_30))]) hx hb dX8_pours_34 hl_40 (by decide) rfl (fun ls_42 hl_43 => ?_)
      refine lv_aload_n hx hb dX8_pours_36 rfl (lv_at hl_43 2 rfl) ?_
      refine gM_v C hW_36 (hwc hwX8) (mc qw_1481) dX8_pours_37 ?_
      refine lv_iload_n hx hb dX8_pours_40 rfl (lv_at hl_43 1 rfl) ?_
      refine lv_iconst (v := 5) hx hb dX8_pours_41 (by decide) ?_
      refine lv_iadd hx hb dX8_pours_42 ?_
      refine g_top (y := nI ((44 + 6 * f_30) + 5)) (nI_add (44 + 6 * f_30) 5) ?_
      refine gm_vld C hW_36 ((44 + 6 * f_30) + 5) (nI_clamp (by omega)) (vp_in_nI (show (44 + 6 * f_30) + 5 < 128 by omega) (by decide)) dX8_pours_43 ?_
      refine g_top (y := X.1 16 ((44 + 6 * f_30) + 5)) (congrFun (rd_in (by decide) rd_out) _) ?_
      refine lv_iconst (v := 1) hx hb dX8_pours_44 (by decide) ?_
      refine lv_icmp_ne (tgt := 54) hx hb dX8_pours_45 (by decide) (fun b_44 => ?_) (fun b_44 => ?_)
      · refine lv_aload_n hx hb dX8_pours_54 rfl (lv_at hl_43 2 rfl) ?_
        refine lv_iload_n hx hb dX8_pours_55 rfl (lv_at hl_43 3 rfl) ?_
        refine g_calli (va_runS (As := [.int (nI f_20)]) (rest := [.ref (ad G 723)]) C.1 (cX8_ladle_ok l G (setRow (setRow (setRow X 15 (X.1 15)) 16 (X.1 16)) 20 (X.1 20)) (nI f_20)) (va_cwS 1 C.1.2.2.2.2 (gS qw_1473 qw_1474 qw_81 qw_1475) rfl rfl rfl (by decide +kernel) ⟨Nat.le_of_ble_eq_true rfl, Nat.le_of_ble_eq_true rfl⟩) (g_pre C hW_36 hS_37 [.int (nI f_20)]) rfl rfl hl_43.1 rfl (lv_room (Nat.le_of_ble_eq_true rfl)) dX8_pours_56 ⟨Nat.zero_le _, Nat.zero_le _⟩) hS_37 (fun r_46 Y_47 H_48 locs_49 hW_50 hS_51 h_45 => ?_)
        obtain ⟨h_45, hy_52⟩ := h_45
        replace hy_52 := hy_52.symm
        subst hy_52
        replace h_45 : r_46 = oM_ladle (nI f_20) := h_45
        subst h_45
        refine g_top (y := nI (27 + 5 * f_20)) (at_ladle f_20) ?_
        refine g_calli (va_runV (As := [.int (nI (27 + 5 * f_20))]) (rest := []) C.1 (cX8_mass_ok l G (setRow (setRow (setRow X 15 (X.1 15)) 16 (X.1 16)) 20 (X.1 20)) (27 + 5 * f_20) (show 27 + 5 * f_20 + 4 ≤ 128 by omega)) (cwV 1 C.1.2.2.2.2 (gV qw_1575 qw_1577 qw_32 qw_81 qw_1578) rfl rfl rfl (by decide +kernel) ⟨Nat.le_of_ble_eq_true rfl, Nat.le_of_ble_eq_true rfl⟩) (g_rModel C hW_50 hS_51 [.int (nI (27 + 5 * f_20))]) rfl rfl hl_43.1 rfl (lv_room (Nat.le_of_ble_eq_true rfl)) dX8_pours_59 ⟨Nat.zero_le _, Nat.zero_le _⟩) hS_51 (fun r_54 Y_55 H_56 locs_57 hW_58 hS_59 h_53 => ?_)
        obtain ⟨h_53, hy_60⟩ := h_53
        replace hy_60 := hy_60.symm
        subst hy_60
        replace h_53 : r_54 = oM_mass (X.1 16) (27 + 5 * f_20) := h_53
        subst h_53
        refine lv_iload hx hb dX8_pours_62 (lv_at hl_43 0 rfl) ?_
        refine lv_icmp_ge (tgt := 73) hx hb dX8_pours_64 (by decide) (fun b_61 => ?_) (fun b_61 => ?_)
        · refine lv_aload_n hx hb dX8_pours_73 rfl (lv_at hl_43 2 rfl) ?_
          refine lv_iload_n hx hb dX8_pours_74 rfl (lv_at hl_43 3 rfl) ?_
          refine g_calli (va_runS (As := [.int (nI f_20)]) (rest := [.ref (ad G 723)]) C.1 (cX8_ladle_ok l G (setRow (setRow (setRow X 15 (X.1 15)) 16 (X.1 16)) 20 (X.1 20)) (nI f_20)) (va_cwS 1 C.1.2.2.2.2 (gS qw_1473 qw_1474 qw_81 qw_1475) rfl rfl rfl (by decide +kernel) ⟨Nat.le_of_ble_eq_true rfl, Nat.le_of_ble_eq_true rfl⟩) (g_pre C hW_58 hS_59 [.int (nI f_20)]) rfl rfl hl_43.1 rfl (lv_room (Nat.le_of_ble_eq_true rfl)) dX8_pours_75 ⟨Nat.zero_le _, Nat.zero_le _⟩) hS_59 (fun r_63 Y_64 H_65 locs_66 hW_67 hS_68 h_62 => ?_)
          obtain ⟨h_62, hy_69⟩ := h_62
          replace hy_69 := hy_69.symm
          subst hy_69
          replace h_62 : r_63 = oM_ladle (nI f_20) := h_62
          subst h_62
          refine g_top (y := nI (27 + 5 * f_20)) (at_ladle f_20) ?_
          refine g_calli (va_runV (As := [.int (nI (27 + 5 * f_20))]) (rest := []) C.1 (cX8_isFluid_ok l G (setRow (setRow (setRow X 15 (X.1 15)) 16 (X.1 16)) 20 (X.1 20)) (27 + 5 * f_20) (show 27 + 5 * f_20 + 5 ≤ 128 by omega)) (cwV 1 C.1.2.2.2.2 (gV qw_1611 qw_1613 qw_39 qw_81 qw_1614) rfl rfl rfl (by decide +kernel) ⟨Nat.le_of_ble_eq_true rfl, Nat.le_of_ble_eq_true rfl⟩) (g_rModel C hW_67 hS_68 [.int (nI (27 + 5 * f_20))]) rfl rfl hl_43.1 rfl (lv_room (Nat.le_of_ble_eq_true rfl)) dX8_pours_78 ⟨Nat.zero_le _, Nat.zero_le _⟩) hS_68 (fun r_71 Y_72 H_73 locs_74 hW_75 hS_76 h_70 => ?_)
          obtain ⟨h_70, hy_77⟩ := h_70
          replace hy_77 := hy_77.symm
          subst hy_77
          replace h_70 : r_71 = oM_isFluid (X.1 16) (X.1 21) (27 + 5 * f_20) := h_70
          subst h_70
          refine lv_if_ne (tgt := 90) hx hb dX8_pours_81 (by decide) (fun b_78 => ?_) (fun b_78 => ?_)
          · refine lv_aload_n hx hb dX8_pours_90 rfl (lv_at hl_43 2 rfl) ?_
            refine lv_iload_n hx hb dX8_pours_91 rfl (lv_at hl_43 3 rfl) ?_
            refine g_calli (va_runS (As := [.int (nI f_20)]) (rest := [.ref (ad G 723)]) C.1 (cX8_ladle_ok l G (setRow (setRow (setRow X 15 (X.1 15)) 16 (X.1 16)) 20 (X.1 20)) (nI f_20)) (va_cwS 1 C.1.2.2.2.2 (gS qw_1473 qw_1474 qw_81 qw_1475) rfl rfl rfl (by decide +kernel) ⟨Nat.le_of_ble_eq_true rfl, Nat.le_of_ble_eq_true rfl⟩) (g_pre C hW_75 hS_76 [.int (nI f_20)]) rfl rfl hl_43.1 rfl (lv_room (Nat.le_of_ble_eq_true rfl)) dX8_pours_92 ⟨Nat.zero_le _, Nat.zero_le _⟩) hS_76 (fun r_80 Y_81 H_82 locs_83 hW_84 hS_85 h_79 => ?_)
            obtain ⟨h_79, hy_86⟩ := h_79
            replace hy_86 := hy_86.symm
            subst hy_86
            replace h_79 : r_80 = oM_ladle (nI f_20) := h_79
            subst h_79
            refine g_top (y := nI (27 + 5 * f_20)) (at_ladle f_20) ?_
            refine lv_iload hx hb dX8_pours_95 (lv_at hl_43 0 rfl) ?_
            refine g_callv (va_runV (As := [.int (nI (27 + 5 * f_20)), .int v_41]) (rest := []) C.1 (cX8_takes_ok l G (setRow (setRow (setRow X 15 (X.1 15)) 16 (X.1 16)) 20 (X.1 20)) (27 + 5 * f_20) v_41 (show 27 + 5 * f_20 + 4 ≤ 128 by omega) (by subst ev_41; exact nz_pour (hm.2.1 f_20 (by omega)) (by rw [show 44 + 6 * f_30 + 4 = 48 + 6 * f_30 by omega]; exact (hmm f_30 (by omega)).1) (by decide) b_61)) (cwV 2 C.1.2.2.2.2 (gV qw_1627 qw_1629 qw_42 qw_81 qw_1630) rfl rfl rfl (by decide +kernel) ⟨Nat.le_of_ble_eq_true rfl, Nat.le_of_ble_eq_true rfl⟩) (g_rModel C hW_84 hS_85 [.int (nI (27 + 5 * f_20)), .int v_41]) rfl rfl hl_43.1 rfl (lv_room (Nat.le_of_ble_eq_true rfl)) dX8_pours_97 ⟨Nat.zero_le _, Nat.zero_le _⟩) hS_85 (fun Y_88 H_89 locs_90 hW_91 hS_92 h_87 => ?_)
            replace h_87 : Y_88 = setRow (setRow (setRow (setRow (setRow X 15 (X.1 15)) 16 (X.1 16)) 20 (X.1 20)) 16 ((oM_takes (X.1 16) (X.1 20) (27 + 5 * f_20) v_41).1)) 20 ((oM_takes (X.1 16) (X.1 20) (27 + 5 * f_20) v_41).2) := h_87
            obtain ⟨w_93, ew_93⟩ : ∃ Z9, Z9 = (oM_takes (X.1 16) (X.1 20) (27 + 5 * f_20) v_41).1 := ⟨_, rfl⟩
            obtain ⟨w_94, ew_94⟩ : ∃ Z9, Z9 = (oM_takes (X.1 16) (X.1 20) (27 + 5 * f_20) v_41).2 := ⟨_, rfl⟩
            have qqw_93 : Y_88 = setRow (setRow (setRow (setRow (setRow X 15 (X.1 15)) 16 (X.1 16)) 20 (X.1 20)) 16 w_93) 20 w_94 := by rw [h_87, ew_93, ew_94]
            have hW_95 : Wd G (setRow (setRow (setRow X 15 (X.1 15)) 16 w_93) 20 w_94) H_89 := Wd.cast (((qqw_93).trans (congrArg (fun Z9 => setRow (Z9) 20 w_94) (sr_in (by decide) sr_out))).trans (congrArg (fun Z9 => Z9) sr_out)) hW_91
            refine lv_aload_n hx hb dX8_pours_100 rfl (lv_at hl_43 2 rfl) ?_
            refine lv_iload_n hx hb dX8_pours_101 rfl (lv_at hl_43 1 rfl) ?_
            refine g_callv (va_runV (As := [.int (nI (44 + 6 * f_30))]) (rest := []) C.1 (cX8_adds_ok l G (setRow (setRow (setRow X 15 (X.1 15)) 16 w_93) 20 w_94) (44 + 6 * f_30) (show 44 + 6 * f_30 + 4 ≤ 128 by omega)) (cwV 1 C.1.2.2.2.2 (gV qw_1587 qw_1589 qw_35 qw_81 qw_1590) rfl rfl rfl (by decide +kernel) ⟨Nat.le_of_ble_eq_true rfl, Nat.le_of_ble_eq_true rfl⟩) (g_rModel C hW_95 hS_92 [.int (nI (44 + 6 * f_30))]) rfl rfl hl_43.1 rfl (lv_room (Nat.le_of_ble_eq_true rfl)) dX8_pours_102 ⟨Nat.zero_le _, Nat.zero_le _⟩) hS_92 (fun Y_97 H_98 locs_99 hW_100 hS_101 h_96 => ?_)
            replace h_96 : Y_97 = setRow (setRow (setRow (setRow X 15 (X.1 15)) 16 w_93) 20 w_94) 16 (oM_adds w_93 w_94 (44 + 6 * f_30)) := h_96
            obtain ⟨w_102, ew_102⟩ : ∃ Z9, Z9 = oM_adds w_93 w_94 (44 + 6 * f_30) := ⟨_, rfl⟩
            have qqw_102 : Y_97 = setRow (setRow (setRow (setRow X 15 (X.1 15)) 16 w_93) 20 w_94) 16 w_102 := by rw [h_96, ew_102]
            have hW_103 : Wd G (setRow (setRow (setRow X 15 (X.1 15)) 16 w_102) 20 w_94) H_98 := Wd.cast ((qqw_102).trans (congrArg (fun Z9 => Z9) (sr_in (by decide) sr_out))) hW_100
            refine lv_aload_n hx hb dX8_pours_105 rfl (lv_at hl_43 2 rfl) ?_
            refine gM_v C hW_103 (hwc hwX8) (mc qw_1481) dX8_pours_106 ?_
            refine lv_iload_n hx hb dX8_pours_109 rfl (lv_at hl_43 1 rfl) ?_
            refine lv_iconst (v := 5) hx hb dX8_pours_110 (by decide) ?_
            refine lv_iadd hx hb dX8_pours_111 ?_
            refine g_top (y := nI ((44 + 6 * f_30) + 5)) (nI_add (44 + 6 * f_30) 5) ?_
            refine lv_iconst (v := 1) hx hb dX8_pours_112 (by decide) ?_
            refine gm_vst C hW_103 hS_101 ((44 + 6 * f_30) + 5) (nI_clamp (by omega)) (vp_in_nI (show (44 + 6 * f_30) + 5 < 128 by omega) (by decide)) dX8_pours_113 (fun H_104 locs_105 hW_106 hS_107 => ?_)
            obtain ⟨w_108, ew_108⟩ : ∃ Z9, Z9 = upd w_102 ((44 + 6 * f_30) + 5) 1 := ⟨_, rfl⟩
            have kn_109 : w_108 ((44 + 6 * f_30) + 5) = 1 := by rw [ew_108]; exact pk_us
            have hW_110 : Wd G (setRow (setRow (setRow X 15 (X.1 15)) 16 w_108) 20 w_94) H_104 := Wd.cast (by rw [ew_108]; exact (st_in (by decide) st_out)) hW_106
            refine lv_aload_n hx hb dX8_pours_114 rfl (lv_at hl_43 2 rfl) ?_
            refine lv_iload_n hx hb dX8_pours_115 rfl (lv_at hl_43 3 rfl) ?_
            refine g_callv (va_runV (As := [.int (nI f_20)]) (rest := []) C.1 (cX8_cools_ok l G (setRow (setRow (setRow X 15 (X.1 15)) 16 w_108) 20 w_94) f_20 (show f_20 < 3 by omega)) (cwV 1 C.1.2.2.2.2 (gV qw_1643 qw_1645 qw_45 qw_81 qw_1646) rfl rfl rfl (by decide +kernel) ⟨Nat.le_of_ble_eq_true rfl, Nat.le_of_ble_eq_true rfl⟩) (g_rModel C hW_110 hS_107 [.int (nI f_20)]) rfl rfl hl_43.1 rfl (lv_room (Nat.le_of_ble_eq_true rfl)) dX8_pours_116 ⟨Nat.zero_le _, Nat.zero_le _⟩) hS_107 (fun Y_112 H_113 locs_114 hW_115 hS_116 h_111 => ?_)
            replace h_111 : Y_112 = setRow (setRow (setRow (setRow X 15 (X.1 15)) 16 w_108) 20 w_94) 16 (oM_cools w_108 f_20) := h_111
            obtain ⟨w_117, ew_117⟩ : ∃ Z9, Z9 = oM_cools w_108 f_20 := ⟨_, rfl⟩
            have qqw_117 : Y_112 = setRow (setRow (setRow (setRow X 15 (X.1 15)) 16 w_108) 20 w_94) 16 w_117 := by rw [h_111, ew_117]
            have hW_118 : Wd G (setRow (setRow (setRow X 15 (X.1 15)) 16 w_117) 20 w_94) H_113 := Wd.cast ((qqw_117).trans (congrArg (fun Z9 => Z9) (sr_in (by decide) sr_out))) hW_115
            refine lv_aload_n hx hb dX8_pours_119 rfl (lv_at hl_43 2 rfl) ?_
            refine lv_iload_n hx hb dX8_pours_120 rfl (lv_at hl_43 3 rfl) ?_
            refine g_calli (va_runS (As := [.int (nI f_20)]) (rest := [.ref (ad G 723)]) C.1 (cX8_ladle_ok l G (setRow (setRow (setRow X 15 (X.1 15)) 16 w_117) 20 w_94) (nI f_20)) (va_cwS 1 C.1.2.2.2.2 (gS qw_1473 qw_1474 qw_81 qw_1475) rfl rfl rfl (by decide +kernel) ⟨Nat.le_of_ble_eq_true rfl, Nat.le_of_ble_eq_true rfl⟩) (g_pre C hW_118 hS_116 [.int (nI f_20)]) rfl rfl hl_43.1 rfl (lv_room (Nat.le_of_ble_eq_true rfl)) dX8_pours_121 ⟨Nat.zero_le _, Nat.zero_le _⟩) hS_116 (fun r_120 Y_121 H_122 locs_123 hW_124 hS_125 h_119 => ?_)
            obtain ⟨h_119, hy_126⟩ := h_119
            replace hy_126 := hy_126.symm
            subst hy_126
            replace h_119 : r_120 = oM_ladle (nI f_20) := h_119
            subst h_119
            refine g_top (y := nI (27 + 5 * f_20)) (at_ladle f_20) ?_
            refine g_calli (va_runV (As := [.int (nI (27 + 5 * f_20))]) (rest := []) C.1 (cX8_mass_ok l G (setRow (setRow (setRow X 15 (X.1 15)) 16 w_117) 20 w_94) (27 + 5 * f_20) (show 27 + 5 * f_20 + 4 ≤ 128 by omega)) (cwV 1 C.1.2.2.2.2 (gV qw_1575 qw_1577 qw_32 qw_81 qw_1578) rfl rfl rfl (by decide +kernel) ⟨Nat.le_of_ble_eq_true rfl, Nat.le_of_ble_eq_true rfl⟩) (g_rModel C hW_124 hS_125 [.int (nI (27 + 5 * f_20))]) rfl rfl hl_43.1 rfl (lv_room (Nat.le_of_ble_eq_true rfl)) dX8_pours_124 ⟨Nat.zero_le _, Nat.zero_le _⟩) hS_125 (fun r_128 Y_129 H_130 locs_131 hW_132 hS_133 h_127 => ?_)
            obtain ⟨h_127, hy_134⟩ := h_127
            replace hy_134 := hy_134.symm
            subst hy_134
            replace h_127 : r_128 = oM_mass w_117 (27 + 5 * f_20) := h_127
            subst h_127
            exact g_iret C hr hlk hW_132 hS_133 dX8_pours_127 (by subst ew_117; subst ew_108; subst ew_102; subst ew_94; subst ew_93; subst ev_41; exact ⟨(by first | rfl | (simp only [oM_pours, clf (show f_20 < 2 ^ 31 by omega), clf (show f_30 < 2 ^ 31 by omega), b_9, b_29, b_44, b_61, b_78, if_true, if_false, em, ei, clf (show km < 2 ^ 31 by omega), clf (show ki < 2 ^ 31 by omega)]; first | done | rfl)), (by first | rfl | (simp only [oM_pours, clf (show f_20 < 2 ^ 31 by omega), clf (show f_30 < 2 ^ 31 by omega), b_9, b_29, b_44, b_61, b_78, if_true, if_false, em, ei, clf (show km < 2 ^ 31 by omega), clf (show ki < 2 ^ 31 by omega)]; first | done | rfl))⟩)
          · refine lv_aload_n hx hb dX8_pours_84 rfl (lv_at hl_43 2 rfl) ?_
            refine lv_iconst (v := 4) hx hb dX8_pours_85 (by decide) ?_
            refine g_calli (va_runV (As := [.int 4]) (rest := []) C.1 (cX8_fail_ok l G (setRow (setRow (setRow X 15 (X.1 15)) 16 (X.1 16)) 20 (X.1 20)) 4) (cwV 1 C.1.2.2.2.2 (gV qw_1571 qw_1573 qw_31 qw_81 qw_1574) rfl rfl rfl (by decide +kernel) ⟨Nat.le_of_ble_eq_true rfl, Nat.le_of_ble_eq_true rfl⟩) (g_rModel C hW_75 hS_76 [.int 4]) rfl rfl hl_43.1 rfl (lv_room (Nat.le_of_ble_eq_true rfl)) dX8_pours_86 ⟨Nat.zero_le _, Nat.zero_le _⟩) hS_76 (fun r_136 Y_137 H_138 locs_139 hW_140 hS_141 h_135 => ?_)
            obtain ⟨h_142, h_135⟩ := h_135
            replace h_142 : r_136 = (oM_fail (X.1 15) 4).1 := h_142
            subst h_142
            replace h_135 : Y_137 = setRow (setRow (setRow (setRow X 15 (X.1 15)) 16 (X.1 16)) 20 (X.1 20)) 15 ((oM_fail (X.1 15) 4).2) := h_135
            obtain ⟨w_143, ew_143⟩ : ∃ Z9, Z9 = (oM_fail (X.1 15) 4).2 := ⟨_, rfl⟩
            have qqw_143 : Y_137 = setRow (setRow (setRow (setRow X 15 (X.1 15)) 16 (X.1 16)) 20 (X.1 20)) 15 w_143 := by rw [h_135, ew_143]
            have hW_144 : Wd G (setRow (setRow (setRow X 15 w_143) 16 (X.1 16)) 20 (X.1 20)) H_138 := Wd.cast ((qqw_143).trans (congrArg (fun Z9 => Z9) (sr_in (by decide) (sr_in (by decide) sr_out)))) hW_140
            exact g_iret C hr hlk hW_144 hS_141 dX8_pours_89 (by subst ew_143; subst ev_41; exact ⟨(by first | rfl | (simp only [oM_pours, clf (show f_20 < 2 ^ 31 by omega), clf (show f_30 < 2 ^ 31 by omega), b_9, b_29, b_44, b_61, eq_true b_78, if_true, if_false, em, ei, clf (show km < 2 ^ 31 by omega), clf (show ki < 2 ^ 31 by omega)]; first | done | rfl)), (by first | rfl | (simp only [oM_pours, clf (show f_20 < 2 ^ 31 by omega), clf (show f_30 < 2 ^ 31 by omega), b_9, b_29, b_44, b_61, eq_true b_78, if_true, if_false, em, ei, clf (show km < 2 ^ 31 by omega), clf (show ki < 2 ^ 31 by omega)]; first | done | rfl))⟩)
        · refine lv_aload_n hx hb dX8_pours_67 rfl (lv_at hl_43 2 rfl) ?_
          refine lv_iconst (v := 3) hx hb dX8_pours_68 (by decide) ?_
          refine g_calli (va_runV (As := [.int 3]) (rest := []) C.1 (cX8_fail_ok l G (setRow (setRow (setRow X 15 (X.1 15)) 16 (X.1 16)) 20 (X.1 20)) 3) (cwV 1 C.1.2.2.2.2 (gV qw_1571 qw_1573 qw_31 qw_81 qw_1574) rfl rfl rfl (by decide +kernel) ⟨Nat.le_of_ble_eq_true rfl, Nat.le_of_ble_eq_true rfl⟩) (g_rModel C hW_58 hS_59 [.int 3]) rfl rfl hl_43.1 rfl (lv_room (Nat.le_of_ble_eq_true rfl)) dX8_pours_69 ⟨Nat.zero_le _, Nat.zero_le _⟩) hS_59 (fun r_146 Y_147 H_148 locs_149 hW_150 hS_151 h_145 => ?_)
          obtain ⟨h_152, h_145⟩ := h_145
          replace h_152 : r_146 = (oM_fail (X.1 15) 3).1 := h_152
          subst h_152
          replace h_145 : Y_147 = setRow (setRow (setRow (setRow X 15 (X.1 15)) 16 (X.1 16)) 20 (X.1 20)) 15 ((oM_fail (X.1 15) 3).2) := h_145
          obtain ⟨w_153, ew_153⟩ : ∃ Z9, Z9 = (oM_fail (X.1 15) 3).2 := ⟨_, rfl⟩
          have qqw_153 : Y_147 = setRow (setRow (setRow (setRow X 15 (X.1 15)) 16 (X.1 16)) 20 (X.1 20)) 15 w_153 := by rw [h_145, ew_153]
          have hW_154 : Wd G (setRow (setRow (setRow X 15 w_153) 16 (X.1 16)) 20 (X.1 20)) H_148 := Wd.cast ((qqw_153).trans (congrArg (fun Z9 => Z9) (sr_in (by decide) (sr_in (by decide) sr_out)))) hW_150
          exact g_iret C hr hlk hW_154 hS_151 dX8_pours_72 (by subst ew_153; subst ev_41; exact ⟨(by first | rfl | (simp only [oM_pours, clf (show f_20 < 2 ^ 31 by omega), clf (show f_30 < 2 ^ 31 by omega), b_9, b_29, b_44, b_61, if_true, if_false, em, ei, clf (show km < 2 ^ 31 by omega), clf (show ki < 2 ^ 31 by omega)]; first | done | rfl)), (by first | rfl | (simp only [oM_pours, clf (show f_20 < 2 ^ 31 by omega), clf (show f_30 < 2 ^ 31 by omega), b_9, b_29, b_44, b_61, if_true, if_false, em, ei, clf (show km < 2 ^ 31 by omega), clf (show ki < 2 ^ 31 by omega)]; first | done | rfl))⟩)
      · refine lv_aload_n hx hb dX8_pours_48 rfl (lv_at hl_43 2 rfl) ?_
        refine lv_iconst (v := 2) hx hb dX8_pours_49 (by decide) ?_
        refine g_calli (va_runV (As := [.int 2]) (rest := []) C.1 (cX8_fail_ok l G (setRow (setRow (setRow X 15 (X.1 15)) 16 (X.1 16)) 20 (X.1 20)) 2) (cwV 1 C.1.2.2.2.2 (gV qw_1571 qw_1573 qw_31 qw_81 qw_1574) rfl rfl rfl (by decide +kernel) ⟨Nat.le_of_ble_eq_true rfl, Nat.le_of_ble_eq_true rfl⟩) (g_rModel C hW_36 hS_37 [.int 2]) rfl rfl hl_43.1 rfl (lv_room (Nat.le_of_ble_eq_true rfl)) dX8_pours_50 ⟨Nat.zero_le _, Nat.zero_le _⟩) hS_37 (fun r_156 Y_157 H_158 locs_159 hW_160 hS_161 h_155 => ?_)
        obtain ⟨h_162, h_155⟩ := h_155
        replace h_162 : r_156 = (oM_fail (X.1 15) 2).1 := h_162
        subst h_162
        replace h_155 : Y_157 = setRow (setRow (setRow (setRow X 15 (X.1 15)) 16 (X.1 16)) 20 (X.1 20)) 15 ((oM_fail (X.1 15) 2).2) := h_155
        obtain ⟨w_163, ew_163⟩ : ∃ Z9, Z9 = (oM_fail (X.1 15) 2).2 := ⟨_, rfl⟩
        have qqw_163 : Y_157 = setRow (setRow (setRow (setRow X 15 (X.1 15)) 16 (X.1 16)) 20 (X.1 20)) 15 w_163 := by rw [h_155, ew_163]
        have hW_164 : Wd G (setRow (setRow (setRow X 15 w_163) 16 (X.1 16)) 20 (X.1 20)) H_158 := Wd.cast ((qqw_163).trans (congrArg (fun Z9 => Z9) (sr_in (by decide) (sr_in (by decide) sr_out)))) hW_160
        exact g_iret C hr hlk hW_164 hS_161 dX8_pours_53 (by subst ew_163; subst ev_41; exact ⟨(by first | rfl | (simp only [oM_pours, clf (show f_20 < 2 ^ 31 by omega), clf (show f_30 < 2 ^ 31 by omega), b_9, b_29, eq_true b_44, if_true, if_false, em, ei, clf (show km < 2 ^ 31 by omega), clf (show ki < 2 ^ 31 by omega)]; first | done | rfl)), (by first | rfl | (simp only [oM_pours, clf (show f_20 < 2 ^ 31 by omega), clf (show f_30 < 2 ^ 31 by omega), b_9, b_29, eq_true b_44, if_true, if_false, em, ei, clf (show km < 2 ^ 31 by omega), clf (show ki < 2 ^ 31 by omega)]; first | done | rfl))⟩)
    · refine lv_aload_n hx hb dX8_pours_15 rfl (lv_at hl 0 rfl) ?_
      refine lv_iconst (v := 1) hx hb dX8_pours_16 (by decide) ?_
      refine g_calli (va_runV (As := [.int 1]) (rest := []) C.1 (cX8_fail_ok l G (setRow (setRow (setRow X 15 (X.1 15)) 16 (X.1 16)) 20 (X.1 20)) 1) (cwV 1 C.1.2.2.2.2 (gV qw_1571 qw_1573 qw_31 qw_81 qw_1574) rfl rfl rfl (by decide +kernel) ⟨Nat.le_of_ble_eq_true rfl, Nat.le_of_ble_eq_true rfl⟩) (g_rModel C hW_26 hS_27 [.int 1]) rfl rfl hl.1 rfl (lv_room (Nat.le_of_ble_eq_true rfl)) dX8_pours_17 ⟨Nat.zero_le _, Nat.zero_le _⟩) hS_27 (fun r_166 Y_167 H_168 locs_169 hW_170 hS_171 h_165 => ?_)
      obtain ⟨h_172, h_165⟩ := h_165
      replace h_172 : r_166 = (oM_fail (X.1 15) 1).1 := h_172
      subst h_172
      replace h_165 : Y_167 = setRow (setRow (setRow (setRow X 15 (X.1 15)) 16 (X.1 16)) 20 (X.1 20)) 15 ((oM_fail (X.1 15) 1).2) := h_165
      obtain ⟨w_173, ew_173⟩ : ∃ Z9, Z9 = (oM_fail (X.1 15) 1).2 := ⟨_, rfl⟩
      have qqw_173 : Y_167 = setRow (setRow (setRow (setRow X 15 (X.1 15)) 16 (X.1 16)) 20 (X.1 20)) 15 w_173 := by rw [h_165, ew_173]
      have hW_174 : Wd G (setRow (setRow (setRow X 15 w_173) 16 (X.1 16)) 20 (X.1 20)) H_168 := Wd.cast ((qqw_173).trans (congrArg (fun Z9 => Z9) (sr_in (by decide) (sr_in (by decide) sr_out)))) hW_170
      exact g_iret C hr hlk hW_174 hS_171 dX8_pours_20 (by subst ew_173; exact ⟨(by first | rfl | (simp only [oM_pours, clf (show f_20 < 2 ^ 31 by omega), b_9, eq_true b_29, if_true, if_false, em, ei, clf (show km < 2 ^ 31 by omega), clf (show ki < 2 ^ 31 by omega)]; first | done | rfl)), (by first | rfl | (simp only [oM_pours, clf (show f_20 < 2 ^ 31 by omega), b_9, eq_true b_29, if_true, if_false, em, ei, clf (show km < 2 ^ 31 by omega), clf (show ki < 2 ^ 31 by omega)]; first | done | rfl))⟩)

def oM_breaks (w15 : Nat → Int32) (w16 : Nat → Int32) (mo : Int32) : Int32 × ((Nat → Int32) × (Nat → Int32)) := if oM_isMould (w16) mo = 0 then ((oM_fail (w15) 1).1, ((oM_fail (w15) 1).2), w16) else (if w16 ((44 + 6 * mo.toNatClampNeg) + 5) = 0 then ((oM_fail (w15) 2).1, ((oM_fail (w15) 2).2), w16) else (if w16 43 = 12 then ((oM_fail (w15) 3).1, ((oM_fail (w15) 3).2), w16) else (w16 43, w15, (upd (upd (upd (upd (upd (upd (upd (upd (upd (upd (w16) (80 + 4 * ((w16 43).toNatClampNeg)) (w16 (44 + 6 * mo.toNatClampNeg))) (44 + 6 * mo.toNatClampNeg) 0) ((80 + 4 * ((w16 43).toNatClampNeg)) + 1) ((upd (upd (w16) (80 + 4 * ((w16 43).toNatClampNeg)) (w16 (44 + 6 * mo.toNatClampNeg))) (44 + 6 * mo.toNatClampNeg) 0) ((44 + 6 * mo.toNatClampNeg) + 1))) ((44 + 6 * mo.toNatClampNeg) + 1) 0) ((80 + 4 * ((w16 43).toNatClampNeg)) + 2) ((upd (upd (upd (upd (w16) (80 + 4 * ((w16 43).toNatClampNeg)) (w16 (44 + 6 * mo.toNatClampNeg))) (44 + 6 * mo.toNatClampNeg) 0) ((80 + 4 * ((w16 43).toNatClampNeg)) + 1) ((upd (upd (w16) (80 + 4 * ((w16 43).toNatClampNeg)) (w16 (44 + 6 * mo.toNatClampNeg))) (44 + 6 * mo.toNatClampNeg) 0) ((44 + 6 * mo.toNatClampNeg) + 1))) ((44 + 6 * mo.toNatClampNeg) + 1) 0) ((44 + 6 * mo.toNatClampNeg) + 2))) ((44 + 6 * mo.toNatClampNeg) + 2) 0) ((80 + 4 * ((w16 43).toNatClampNeg)) + 3) ((upd (upd (upd (upd (upd (upd (w16) (80 + 4 * ((w16 43).toNatClampNeg)) (w16 (44 + 6 * mo.toNatClampNeg))) (44 + 6 * mo.toNatClampNeg) 0) ((80 + 4 * ((w16 43).toNatClampNeg)) + 1) ((upd (upd (w16) (80 + 4 * ((w16 43).toNatClampNeg)) (w16 (44 + 6 * mo.toNatClampNeg))) (44 + 6 * mo.toNatClampNeg) 0) ((44 + 6 * mo.toNatClampNeg) + 1))) ((44 + 6 * mo.toNatClampNeg) + 1) 0) ((80 + 4 * ((w16 43).toNatClampNeg)) + 2) ((upd (upd (upd (upd (w16) (80 + 4 * ((w16 43).toNatClampNeg)) (w16 (44 + 6 * mo.toNatClampNeg))) (44 + 6 * mo.toNatClampNeg) 0) ((80 + 4 * ((w16 43).toNatClampNeg)) + 1) ((upd (upd (w16) (80 + 4 * ((w16 43).toNatClampNeg)) (w16 (44 + 6 * mo.toNatClampNeg))) (44 + 6 * mo.toNatClampNeg) 0) ((44 + 6 * mo.toNatClampNeg) + 1))) ((44 + 6 * mo.toNatClampNeg) + 1) 0) ((44 + 6 * mo.toNatClampNeg) + 2))) ((44 + 6 * mo.toNatClampNeg) + 2) 0) ((44 + 6 * mo.toNatClampNeg) + 3))) ((44 + 6 * mo.toNatClampNeg) + 3) 0) ((44 + 6 * mo.toNatClampNeg) + 5) 0) (43) (nI (((w16 43).toNatClampNeg) + 1))))))
set_option maxHeartbeats 4000000 in
set_option maxRecDepth 100000 in
theorem cX8_breaks_ok (l : Launch) (G : GT) (X : St) (mo : Int32) (hm : MInv (X.1 16)) : MetI l G yX8_breaks (wsG yX8_breaks cX8_breaks 5 (some .int)) (rmz 2 43) [.ref (ad G 723), .int mo] X (fun res Y => res = (oM_breaks (X.1 15) (X.1 16) mo).1 ∧ Y = setRow (setRow (X) 15 ((oM_breaks (X.1 15) (X.1 16) mo).2.1)) 16 ((oM_breaks (X.1 15) (X.1 16) mo).2.2)) := by
  refine g_met (cc := cX8_breaks) (maxL := 5) (ret := (some .int)) (by decide) rfl (Nat.le_of_ble_eq_true rfl) ?_
  intro p e s m below meth c ls C hr hlk hnm hW hl
  have hx := C.1.1
  have hb := C.1.2.1
  have hS : va_S (Ab G) s.heap s.heap [] := va_S.rf
  have hl : lv_has ls 5 [(0, .ref (ad G 723)), (1, .int mo)] := hl
  have hW : Wd G (setRow (setRow (X) 15 (X.1 15)) 16 (X.1 16)) s.heap := Wd.cast (((sr_same (X := setRow (X) 15 (X.1 15)) (r := 16) rfl).trans (sr_same (X := X) (r := 15) rfl))).symm hW
  obtain ⟨km, hkm, em, hmm⟩ := hm.2.2.1
  obtain ⟨ki, hki, ei, hii⟩ := hm.2.2.2.1
  refine lv_aload_n hx hb dX8_breaks_0 rfl (lv_at hl 0 rfl) ?_
  refine lv_iload_n hx hb dX8_breaks_1 rfl (lv_at hl 1 rfl) ?_
  refine g_calli (va_runV (As := [.int mo]) (rest := []) C.1 (cX8_isMould_ok l G (setRow (setRow X 15 (X.1 15)) 16 (X.1 16)) mo) (cwV 1 C.1.2.2.2.2 (gV qw_1666 qw_1668 qw_48 qw_81 qw_1669) rfl rfl rfl (by decide +kernel) ⟨Nat.le_of_ble_eq_true rfl, Nat.le_of_ble_eq_true rfl⟩) (g_rModel C hW hS [.int mo]) rfl rfl hl.1 rfl (lv_room (Nat.le_of_ble_eq_true rfl)) dX8_breaks_2 ⟨Nat.zero_le _, Nat.zero_le _⟩) hS (fun r_2 Y_3 H_4 locs_5 hW_6 hS_7 h_1 => ?_)
  obtain ⟨h_1, hy_8⟩ := h_1
  replace hy_8 := hy_8.symm
  subst hy_8
  replace h_1 : r_2 = oM_isMould (X.1 16) mo := h_1
  subst h_1
  refine lv_if_ne (tgt := 14) hx hb dX8_breaks_5 (by decide) (fun b_9 => ?_) (fun b_9 => ?_)
  · obtain ⟨f_10, hf_10, rfl⟩ := count_in (by omega) em b_9
    refine lv_iload_n hx hb dX8_breaks_14 rfl (lv_at hl 1 rfl) ?_
    refine g_calli (va_runS (As := [.int (nI f_10)]) (rest := []) C.1 (cX8_mould_ok l G (setRow (setRow X 15 (X.1 15)) 16 (X.1 16)) (nI f_10)) (va_cwS 1 C.1.2.2.2.2 (gS qw_1655 qw_1656 qw_81 qw_1657) rfl rfl rfl (by decide +kernel) ⟨Nat.le_of_ble_eq_true rfl, Nat.le_of_ble_eq_true rfl⟩) (g_pre C hW_6 hS_7 [.int (nI f_10)]) rfl rfl hl.1 rfl (lv_room (Nat.le_of_ble_eq_true rfl)) dX8_breaks_15 ⟨Nat.zero_le _, Nat.zero_le _⟩) hS_7 (fun r_12 Y_13 H_14 locs_15 hW_16 hS_17 h_11 => ?_)
    obtain ⟨h_11, hy_18⟩ := h_11
    replace hy_18 := hy_18.symm
    subst hy_18
    replace h_11 : r_12 = oM_mould (nI f_10) := h_11
    subst h_11
    refine g_top (y := nI (44 + 6 * f_10)) (at_mould f_10) ?_
    refine lv_istore_n (lv' := [(2, .int (nI (44 + 6 * f_10))), (0, .ref (ad G 723)), (1, .int (nI f_10))]) hx hb dX8_breaks_18 rfl hl (by decide) rfl (fun ls_19 hl_20 => ?_)
    refine lv_aload_n hx hb dX8_breaks_19 rfl (lv_at hl_20 1 rfl) ?_
    refine gM_v C hW_16 (hwc hwX8) (mc qw_1481) dX8_breaks_20 ?_
    refine lv_bipush (v := 43) hx hb dX8_breaks_23 (by decide) ?_
    refine gm_vld C hW_16 43 (by decide) (vlit (by decide)) dX8_breaks_25 ?_
    refine g_top (y := X.1 16 (43)) (congrFun rd_out _) ?_
    refine g_top (y := nI ki) ei ?_
    refine lv_istore_n (lv' := [(3, .int (nI ki)), (2, .int (nI (44 + 6 * f_10))), (0, .ref (ad G 723)), (1, .int (nI f_10))]) hx hb dX8_breaks_26 rfl hl_20 (by decide) rfl (fun ls_21 hl_22 => ?_)
    refine lv_aload_n hx hb dX8_breaks_27 rfl (lv_at hl_22 2 rfl) ?_
    refine gM_v C hW_16 (hwc hwX8) (mc qw_1481) dX8_breaks_28 ?_
    refine lv_iload_n hx hb dX8_breaks_31 rfl (lv_at hl_22 1 rfl) ?_
    refine lv_iconst (v := 5) hx hb dX8_breaks_32 (by decide) ?_
    refine lv_iadd hx hb dX8_breaks_33 ?_
    refine g_top (y := nI ((44 + 6 * f_10) + 5)) (nI_add (44 + 6 * f_10) 5) ?_
    refine gm_vld C hW_16 ((44 + 6 * f_10) + 5) (nI_clamp (by omega)) (vp_in_nI (show (44 + 6 * f_10) + 5 < 128 by omega) (by decide)) dX8_breaks_34 ?_
    refine g_top (y := X.1 16 ((44 + 6 * f_10) + 5)) (congrFun rd_out _) ?_
    refine lv_if_ne (tgt := 44) hx hb dX8_breaks_35 (by decide) (fun b_23 => ?_) (fun b_23 => ?_)
    · refine lv_iload_n hx hb dX8_breaks_44 rfl (lv_at hl_22 0 rfl) ?_
      refine lv_bipush (v := 12) hx hb dX8_breaks_45 (by decide) ?_
      refine lv_icmp_ne (tgt := 56) hx hb dX8_breaks_47 (by decide) (fun b_24 => ?_) (fun b_24 => ?_)
      · have hki12 : ki < 12 := Nat.lt_of_le_of_ne hki (fun q => b_24 (by rw [q]; rfl))
        refine lv_iconst (v := 0) hx hb dX8_breaks_56 (by decide) ?_
        refine lv_istore (lv' := [(4, .int 0), (3, .int (nI ki)), (2, .int (nI (44 + 6 * f_10))), (0, .ref (ad G 723)), (1, .int (nI f_10))]) hx hb dX8_breaks_57 hl_22 (by decide) rfl (fun ls_25 hl_26 => ?_)
        refine lv_iload hx hb dX8_breaks_59 (lv_at hl_26 0 rfl) ?_
        refine lv_iconst (v := 4) hx hb dX8_breaks_61 (by decide) ?_
        refine lv_icmp_ge (tgt := 102) hx hb dX8_breaks_62 (by decide) (fun h9 => absurd h9 (by decide)) (fun _ => ?_)
        refine lv_aload_n hx hb dX8_breaks_65 rfl (lv_at hl_26 3 rfl) ?_
        refine gM_v C hW_16 (hwc hwX8) (mc qw_1481) dX8_breaks_66 ?_
        refine lv_iload_n hx hb dX8_breaks_69 rfl (lv_at hl_26 1 rfl) ?_
        refine g_calli (va_runS (As := [.int (nI ki)]) (rest := [.ref (ad G 724)]) C.1 (cX8_ingot_ok l G (setRow (setRow X 15 (X.1 15)) 16 (X.1 16)) (nI ki)) (va_cwS 1 C.1.2.2.2.2 (gS qw_1678 qw_1679 qw_81 qw_1680) rfl rfl rfl (by decide +kernel) ⟨Nat.le_of_ble_eq_true rfl, Nat.le_of_ble_eq_true rfl⟩) (g_pre C hW_16 hS_17 [.int (nI ki)]) rfl rfl hl_26.1 rfl (lv_room (Nat.le_of_ble_eq_true rfl)) dX8_breaks_70 ⟨Nat.zero_le _, Nat.zero_le _⟩) hS_17 (fun r_28 Y_29 H_30 locs_31 hW_32 hS_33 h_27 => ?_)
        obtain ⟨h_27, hy_34⟩ := h_27
        replace hy_34 := hy_34.symm
        subst hy_34
        replace h_27 : r_28 = oM_ingot (nI ki) := h_27
        subst h_27
        refine g_top (y := nI (80 + 4 * ki)) (at_ingot ki) ?_
        refine lv_iload hx hb dX8_breaks_73 (lv_at hl_26 0 rfl) ?_
        refine lv_iadd hx hb dX8_breaks_75 ?_
        refine g_top (y := (nI (80 + 4 * ki))) (Int32.add_zero _) ?_
        refine lv_aload_n hx hb dX8_breaks_76 rfl (lv_at hl_26 3 rfl) ?_
        refine gM_v C hW_32 (hwc hwX8) (mc qw_1481) dX8_breaks_77 ?_
        refine lv_iload_n hx hb dX8_breaks_80 rfl (lv_at hl_26 2 rfl) ?_
        refine lv_iload hx hb dX8_breaks_81 (lv_at hl_26 0 rfl) ?_
        refine lv_iadd hx hb dX8_breaks_83 ?_
        refine g_top (y := (nI (44 + 6 * f_10))) (Int32.add_zero _) ?_
        refine gm_vld C hW_32 (44 + 6 * f_10) (nI_clamp (by omega)) (vp_in_nI (show 44 + 6 * f_10 < 128 by omega) (by decide)) dX8_breaks_84 ?_
        refine g_top (y := X.1 16 (44 + 6 * f_10)) (congrFun rd_out _) ?_
        refine gm_vst C hW_32 hS_33 (80 + 4 * ki) (nI_clamp (by omega)) (vp_in_nI (show 80 + 4 * ki < 128 by omega) (by decide)) dX8_breaks_85 (fun H_35 locs_36 hW_37 hS_38 => ?_)
        obtain ⟨w_39, ew_39⟩ : ∃ Z9, Z9 = upd (X.1 16) (80 + 4 * ki) (X.1 16 (44 + 6 * f_10)) := ⟨_, rfl⟩
        have kn_40 : w_39 (42) = nI km := by rw [ew_39]; exact (pk_un (by omega)).trans em
        have kn_41 : w_39 (43) = nI ki := by rw [ew_39]; exact (pk_un (by omega)).trans ei
        have hW_42 : Wd G (setRow (setRow X 15 (X.1 15)) 16 w_39) H_35 := Wd.cast (by rw [ew_39]; exact st_out) hW_37
        refine lv_aload_n hx hb dX8_breaks_86 rfl (lv_at hl_26 3 rfl) ?_
        refine gM_v C hW_42 (hwc hwX8) (mc qw_1481) dX8_breaks_87 ?_
        refine lv_iload_n hx hb dX8_breaks_90 rfl (lv_at hl_26 2 rfl) ?_
        refine lv_iload hx hb dX8_breaks_91 (lv_at hl_26 0 rfl) ?_
        refine lv_iadd hx hb dX8_breaks_93 ?_
        refine g_top (y := (nI (44 + 6 * f_10))) (Int32.add_zero _) ?_
        refine lv_iconst (v := 0) hx hb dX8_breaks_94 (by decide) ?_
        refine gm_vst C hW_42 hS_38 (44 + 6 * f_10) (nI_clamp (by omega)) (vp_in_nI (show 44 + 6 * f_10 < 128 by omega) (by decide)) dX8_breaks_95 (fun H_43 locs_44 hW_45 hS_46 => ?_)
        obtain ⟨w_47, ew_47⟩ : ∃ Z9, Z9 = upd w_39 (44 + 6 * f_10) 0 := ⟨_, rfl⟩
        have kn_48 : w_47 (42) = nI km := by rw [ew_47]; exact (pk_un (by omega)).trans kn_40
        have kn_49 : w_47 (43) = nI ki := by rw [ew_47]; exact (pk_un (by omega)).trans kn_41
        have kn_50 : w_47 (44 + 6 * f_10) = 0 := by rw [ew_47]; exact pk_us
        have hW_51 : Wd G (setRow (setRow X 15 (X.1 15)) 16 w_47) H_43 := Wd.cast (by rw [ew_47]; exact st_out) hW_45
        refine lv_iinc (v := 1) (lv' := [(4, .int 1), (3, .int (nI ki)), (2, .int (nI (44 + 6 * f_10))), (0, .ref (ad G 723)), (1, .int (nI f_10))]) hx hb dX8_breaks_96 hl_26 (k := 0) rfl (by decide) (by decide) rfl (fun ls_52 hl_53 => ?_)
        refine lv_goto (tgt := 59) hx hb dX8_breaks_99 (by decide) ?_
        refine lv_iload hx hb dX8_breaks_59 (lv_at hl_53 0 rfl) ?_
        refine lv_iconst (v := 4) hx hb dX8_breaks_61 (by decide) ?_
        refine lv_icmp_ge (tgt := 102) hx hb dX8_breaks_62 (by decide) (fun h9 => absurd h9 (by decide)) (fun _ => ?_)
        refine lv_aload_n hx hb dX8_breaks_65 rfl (lv_at hl_53 3 rfl) ?_
        refine gM_v C hW_51 (hwc hwX8) (mc qw_1481) dX8_breaks_66 ?_
        refine lv_iload_n hx hb dX8_breaks_69 rfl (lv_at hl_53 1 rfl) ?_
        refine g_calli (va_runS (As := [.int (nI ki)]) (rest := [.ref (ad G 724)]) C.1 (cX8_ingot_ok l G (setRow (setRow X 15 (X.1 15)) 16 w_47) (nI ki)) (va_cwS 1 C.1.2.2.2.2 (gS qw_1678 qw_1679 qw_81 qw_1680) rfl rfl rfl (by decide +kernel) ⟨Nat.le_of_ble_eq_true rfl, Nat.le_of_ble_eq_true rfl⟩) (g_pre C hW_51 hS_46 [.int (nI ki)]) rfl rfl hl_53.1 rfl (lv_room (Nat.le_of_ble_eq_true rfl)) dX8_breaks_70 ⟨Nat.zero_le _, Nat.zero_le _⟩) hS_46 (fun r_55 Y_56 H_57 locs_58 hW_59 hS_60 h_54 => ?_)
        obtain ⟨h_54, hy_61⟩ := h_54
        replace hy_61 := hy_61.symm
        subst hy_61
        replace h_54 : r_55 = oM_ingot (nI ki) := h_54
        subst h_54
        refine g_top (y := nI (80 + 4 * ki)) (at_ingot ki) ?_
        refine lv_iload hx hb dX8_breaks_73 (lv_at hl_53 0 rfl) ?_
        refine lv_iadd hx hb dX8_breaks_75 ?_
        refine g_top (y := nI ((80 + 4 * ki) + 1)) (nI_add (80 + 4 * ki) 1) ?_
        refine lv_aload_n hx hb dX8_breaks_76 rfl (lv_at hl_53 3 rfl) ?_
        refine gM_v C hW_59 (hwc hwX8) (mc qw_1481) dX8_breaks_77 ?_
        refine lv_iload_n hx hb dX8_breaks_80 rfl (lv_at hl_53 2 rfl) ?_
        refine lv_iload hx hb dX8_breaks_81 (lv_at hl_53 0 rfl) ?_
        refine lv_iadd hx hb dX8_breaks_83 ?_
        refine g_top (y := nI ((44 + 6 * f_10) + 1)) (nI_add (44 + 6 * f_10) 1) ?_
        refine gm_vld C hW_59 ((44 + 6 * f_10) + 1) (nI_clamp (by omega)) (vp_in_nI (show (44 + 6 * f_10) + 1 < 128 by omega) (by decide)) dX8_breaks_84 ?_
        refine g_top (y := w_47 ((44 + 6 * f_10) + 1)) (congrFun rd_out _) ?_
        refine gm_vst C hW_59 hS_60 ((80 + 4 * ki) + 1) (nI_clamp (by omega)) (vp_in_nI (show (80 + 4 * ki) + 1 < 128 by omega) (by decide)) dX8_breaks_85 (fun H_62 locs_63 hW_64 hS_65 => ?_)
        obtain ⟨w_66, ew_66⟩ : ∃ Z9, Z9 = upd w_47 ((80 + 4 * ki) + 1) (w_47 ((44 + 6 * f_10) + 1)) := ⟨_, rfl⟩
        have kn_67 : w_66 (42) = nI km := by rw [ew_66]; exact (pk_un (by omega)).trans kn_48
        have kn_68 : w_66 (43) = nI ki := by rw [ew_66]; exact (pk_un (by omega)).trans kn_49
        have kn_69 : w_66 (44 + 6 * f_10) = 0 := by rw [ew_66]; exact (pk_un (by omega)).trans kn_50
        have hW_70 : Wd G (setRow (setRow X 15 (X.1 15)) 16 w_66) H_62 := Wd.cast (by rw [ew_66]; exact st_out) hW_64
        refine lv_aload_n hx hb dX8_breaks_86 rfl (lv_at hl_53 3 rfl) ?_
        refine gM_v C hW_70 (hwc hwX8) (mc qw_1481) dX8_breaks_87 ?_
        refine lv_iload_n hx hb dX8_breaks_90 rfl (lv_at hl_53 2 rfl) ?_
        refine lv_iload hx hb dX8_breaks_91 (lv_at hl_53 0 rfl) ?_
        refine lv_iadd hx hb dX8_breaks_93 ?_
        refine g_top (y := nI ((44 + 6 * f_10) + 1)) (nI_add (44 + 6 * f_10) 1) ?_
        refine lv_iconst (v := 0) hx hb dX8_breaks_94 (by decide) ?_
        refine gm_vst C hW_70 hS_65 ((44 + 6 * f_10) + 1) (nI_clamp (by omega)) (vp_in_nI (show (44 + 6 * f_10) + 1 < 128 by omega) (by decide)) dX8_breaks_95 (fun H_71 locs_72 hW_73 hS_74 => ?_)
        obtain ⟨w_75, ew_75⟩ : ∃ Z9, Z9 = upd w_66 ((44 + 6 * f_10) + 1) 0 := ⟨_, rfl⟩
        have kn_76 : w_75 (42) = nI km := by rw [ew_75]; exact (pk_un (by omega)).trans kn_67
        have kn_77 : w_75 (43) = nI ki := by rw [ew_75]; exact (pk_un (by omega)).trans kn_68
        have kn_78 : w_75 (44 + 6 * f_10) = 0 := by rw [ew_75]; exact (pk_un (by omega)).trans kn_69
        have kn_79 : w_75 ((44 + 6 * f_10) + 1) = 0 := by rw [ew_75]; exact pk_us
        have hW_80 : Wd G (setRow (setRow X 15 (X.1 15)) 16 w_75) H_71 := Wd.cast (by rw [ew_75]; exact st_out) hW_73
        refine lv_iinc (v := 2) (lv' := [(4, .int 2), (3, .int (nI ki)), (2, .int (nI (44 + 6 * f_10))), (0, .ref (ad G 723)), (1, .int (nI f_10))]) hx hb dX8_breaks_96 hl_53 (k := 0) rfl (by decide) (by decide) rfl (fun ls_81 hl_82 => ?_)
        refine lv_goto (tgt := 59) hx hb dX8_breaks_99 (by decide) ?_
        refine lv_iload hx hb dX8_breaks_59 (lv_at hl_82 0 rfl) ?_
        refine lv_iconst (v := 4) hx hb dX8_breaks_61 (by decide) ?_
        refine lv_icmp_ge (tgt := 102) hx hb dX8_breaks_62 (by decide) (fun h9 => absurd h9 (by decide)) (fun _ => ?_)
        refine lv_aload_n hx hb dX8_breaks_65 rfl (lv_at hl_82 3 rfl) ?_
        refine gM_v C hW_80 (hwc hwX8) (mc qw_1481) dX8_breaks_66 ?_
        refine lv_iload_n hx hb dX8_breaks_69 rfl (lv_at hl_82 1 rfl) ?_
        refine g_calli (va_runS (As := [.int (nI ki)]) (rest := [.ref (ad G 724)]) C.1 (cX8_ingot_ok l G (setRow (setRow X 15 (X.1 15)) 16 w_75) (nI ki)) (va_cwS 1 C.1.2.2.2.2 (gS qw_1678 qw_1679 qw_81 qw_1680) rfl rfl rfl (by decide +kernel) ⟨Nat.le_of_ble_eq_true rfl, Nat.le_of_ble_eq_true rfl⟩) (g_pre C hW_80 hS_74 [.int (nI ki)]) rfl rfl hl_82.1 rfl (lv_room (Nat.le_of_ble_eq_true rfl)) dX8_breaks_70 ⟨Nat.zero_le _, Nat.zero_le _⟩) hS_74 (fun r_84 Y_85 H_86 locs_87 hW_88 hS_89 h_83 => ?_)
        obtain ⟨h_83, hy_90⟩ := h_83
        replace hy_90 := hy_90.symm
        subst hy_90
        replace h_83 : r_84 = oM_ingot (nI ki) := h_83
        subst h_83
        refine g_top (y := nI (80 + 4 * ki)) (at_ingot ki) ?_
        refine lv_iload hx hb dX8_breaks_73 (lv_at hl_82 0 rfl) ?_
        refine lv_iadd hx hb dX8_breaks_75 ?_
        refine g_top (y := nI ((80 + 4 * ki) + 2)) (nI_add (80 + 4 * ki) 2) ?_
        refine lv_aload_n hx hb dX8_breaks_76 rfl (lv_at hl_82 3 rfl) ?_
        refine gM_v C hW_88 (hwc hwX8) (mc qw_1481) dX8_breaks_77 ?_
        refine lv_iload_n hx hb dX8_breaks_80 rfl (lv_at hl_82 2 rfl) ?_
        refine lv_iload hx hb dX8_breaks_81 (lv_at hl_82 0 rfl) ?_
        refine lv_iadd hx hb dX8_breaks_83 ?_
        refine g_top (y := nI ((44 + 6 * f_10) + 2)) (nI_add (44 + 6 * f_10) 2) ?_
        refine gm_vld C hW_88 ((44 + 6 * f_10) + 2) (nI_clamp (by omega)) (vp_in_nI (show (44 + 6 * f_10) + 2 < 128 by omega) (by decide)) dX8_breaks_84 ?_
        refine g_top (y := w_75 ((44 + 6 * f_10) + 2)) (congrFun rd_out _) ?_
        refine gm_vst C hW_88 hS_89 ((80 + 4 * ki) + 2) (nI_clamp (by omega)) (vp_in_nI (show (80 + 4 * ki) + 2 < 128 by omega) (by decide)) dX8_breaks_85 (fun H_91 locs_92 hW_93 hS_94 => ?_)
        obtain ⟨w_95, ew_95⟩ : ∃ Z9, Z9 = upd w_75 ((80 + 4 * ki) + 2) (w_75 ((44 + 6 * f_10) + 2)) := ⟨_, rfl⟩
        have kn_96 : w_95 (42) = nI km := by rw [ew_95]; exact (pk_un (by omega)).trans kn_76
        have kn_97 : w_95 (43) = nI ki := by rw [ew_95]; exact (pk_un (by omega)).trans kn_77
        have kn_98 : w_95 (44 + 6 * f_10) = 0 := by rw [ew_95]; exact (pk_un (by omega)).trans kn_78
        have kn_99 : w_95 ((44 + 6 * f_10) + 1) = 0 := by rw [ew_95]; exact (pk_un (by omega)).trans kn_79
        have hW_100 : Wd G (setRow (setRow X 15 (X.1 15)) 16 w_95) H_91 := Wd.cast (by rw [ew_95]; exact st_out) hW_93
        refine lv_aload_n hx hb dX8_breaks_86 rfl (lv_at hl_82 3 rfl) ?_
        refine gM_v C hW_100 (hwc hwX8) (mc qw_1481) dX8_breaks_87 ?_
        refine lv_iload_n hx hb dX8_breaks_90 rfl (lv_at hl_82 2 rfl) ?_
        refine lv_iload hx hb dX8_breaks_91 (lv_at hl_82 0 rfl) ?_
        refine lv_iadd hx hb dX8_breaks_93 ?_
        refine g_top (y := nI ((44 + 6 * f_10) + 2)) (nI_add (44 + 6 * f_10) 2) ?_
        refine lv_iconst (v := 0) hx hb dX8_breaks_94 (by decide) ?_
        refine gm_vst C hW_100 hS_94 ((44 + 6 * f_10) + 2) (nI_clamp (by omega)) (vp_in_nI (show (44 + 6 * f_10) + 2 < 128 by omega) (by decide)) dX8_breaks_95 (fun H_101 locs_102 hW_103 hS_104 => ?_)
        obtain ⟨w_105, ew_105⟩ : ∃ Z9, Z9 = upd w_95 ((44 + 6 * f_10) + 2) 0 := ⟨_, rfl⟩
        have kn_106 : w_105 (42) = nI km := by rw [ew_105]; exact (pk_un (by omega)).trans kn_96
        have kn_107 : w_105 (43) = nI ki := by rw [ew_105]; exact (pk_un (by omega)).trans kn_97
        have kn_108 : w_105 (44 + 6 * f_10) = 0 := by rw [ew_105]; exact (pk_un (by omega)).trans kn_98
        have kn_109 : w_105 ((44 + 6 * f_10) + 1) = 0 := by rw [ew_105]; exact (pk_un (by omega)).trans kn_99
        have kn_110 : w_105 ((44 + 6 * f_10) + 2) = 0 := by rw [ew_105]; exact pk_us
        have hW_111 : Wd G (setRow (setRow X 15 (X.1 15)) 16 w_105) H_101 := Wd.cast (by rw [ew_105]; exact st_out) hW_103
        refine lv_iinc (v := 3) (lv' := [(4, .int 3), (3, .int (nI ki)), (2, .int (nI (44 + 6 * f_10))), (0, .ref (ad G 723)), (1, .int (nI f_10))]) hx hb dX8_breaks_96 hl_82 (k := 0) rfl (by decide) (by decide) rfl (fun ls_112 hl_113 => ?_)
        refine lv_goto (tgt := 59) hx hb dX8_breaks_99 (by decide) ?_
        refine lv_iload hx hb dX8_breaks_59 (lv_at hl_113 0 rfl) ?_
        refine lv_iconst (v := 4) hx hb dX8_breaks_61 (by decide) ?_
        refine lv_icmp_ge (tgt := 102) hx hb dX8_breaks_62 (by decide) (fun h9 => absurd h9 (by decide)) (fun _ => ?_)
        refine lv_aload_n hx hb dX8_breaks_65 rfl (lv_at hl_113 3 rfl) ?_
        refine gM_v C hW_111 (hwc hwX8) (mc qw_1481) dX8_breaks_66 ?_
        refine lv_iload_n hx hb dX8_breaks_69 rfl (lv_at hl_113 1 rfl) ?_
        refine g_calli (va_runS (As := [.int (nI ki)]) (rest := [.ref (ad G 724)]) C.1 (cX8_ingot_ok l G (setRow (setRow X 15 (X.1 15)) 16 w_105) (nI ki)) (va_cwS 1 C.1.2.2.2.2 (gS qw_1678 qw_1679 qw_81 qw_1680) rfl rfl rfl (by decide +kernel) ⟨Nat.le_of_ble_eq_true rfl, Nat.le_of_ble_eq_true rfl⟩) (g_pre C hW_111 hS_104 [.int (nI ki)]) rfl rfl hl_113.1 rfl (lv_room (Nat.le_of_ble_eq_true rfl)) dX8_breaks_70 ⟨Nat.zero_le _, Nat.zero_le _⟩) hS_104 (fun r_115 Y_116 H_117 locs_118 hW_119 hS_120 h_114 => ?_)
        obtain ⟨h_114, hy_121⟩ := h_114
        replace hy_121 := hy_121.symm
        subst hy_121
        replace h_114 : r_115 = oM_ingot (nI ki) := h_114
        subst h_114
        refine g_top (y := nI (80 + 4 * ki)) (at_ingot ki) ?_
        refine lv_iload hx hb dX8_breaks_73 (lv_at hl_113 0 rfl) ?_
        refine lv_iadd hx hb dX8_breaks_75 ?_
        refine g_top (y := nI ((80 + 4 * ki) + 3)) (nI_add (80 + 4 * ki) 3) ?_
        refine lv_aload_n hx hb dX8_breaks_76 rfl (lv_at hl_113 3 rfl) ?_
        refine gM_v C hW_119 (hwc hwX8) (mc qw_1481) dX8_breaks_77 ?_
        refine lv_iload_n hx hb dX8_breaks_80 rfl (lv_at hl_113 2 rfl) ?_
        refine lv_iload hx hb dX8_breaks_81 (lv_at hl_113 0 rfl) ?_
        refine lv_iadd hx hb dX8_breaks_83 ?_
        refine g_top (y := nI ((44 + 6 * f_10) + 3)) (nI_add (44 + 6 * f_10) 3) ?_
        refine gm_vld C hW_119 ((44 + 6 * f_10) + 3) (nI_clamp (by omega)) (vp_in_nI (show (44 + 6 * f_10) + 3 < 128 by omega) (by decide)) dX8_breaks_84 ?_
        refine g_top (y := w_105 ((44 + 6 * f_10) + 3)) (congrFun rd_out _) ?_
        refine gm_vst C hW_119 hS_120 ((80 + 4 * ki) + 3) (nI_clamp (by omega)) (vp_in_nI (show (80 + 4 * ki) + 3 < 128 by omega) (by decide)) dX8_breaks_85 (fun H_122 locs_123 hW_124 hS_125 => ?_)
        obtain ⟨w_126, ew_126⟩ : ∃ Z9, Z9 = upd w_105 ((80 + 4 * ki) + 3) (w_105 ((44 + 6 * f_10) + 3)) := ⟨_, rfl⟩
        have kn_127 : w_126 (42) = nI km := by rw [ew_126]; exact (pk_un (by omega)).trans kn_106
        have kn_128 : w_126 (43) = nI ki := by rw [ew_126]; exact (pk_un (by omega)).trans kn_107
        have kn_129 : w_126 (44 + 6 * f_10) = 0 := by rw [ew_126]; exact (pk_un (by omega)).trans kn_108
        have kn_130 : w_126 ((44 + 6 * f_10) + 1) = 0 := by rw [ew_126]; exact (pk_un (by omega)).trans kn_109
        have kn_131 : w_126 ((44 + 6 * f_10) + 2) = 0 := by rw [ew_126]; exact (pk_un (by omega)).trans kn_110
        have hW_132 : Wd G (setRow (setRow X 15 (X.1 15)) 16 w_126) H_122 := Wd.cast (by rw [ew_126]; exact st_out) hW_124
        refine lv_aload_n hx hb dX8_breaks_86 rfl (lv_at hl_113 3 rfl) ?_
        refine gM_v C hW_132 (hwc hwX8) (mc qw_1481) dX8_breaks_87 ?_
        refine lv_iload_n hx hb dX8_breaks_90 rfl (lv_at hl_113 2 rfl) ?_
        refine lv_iload hx hb dX8_breaks_91 (lv_at hl_113 0 rfl) ?_
        refine lv_iadd hx hb dX8_breaks_93 ?_
        refine g_top (y := nI ((44 + 6 * f_10) + 3)) (nI_add (44 + 6 * f_10) 3) ?_
        refine lv_iconst (v := 0) hx hb dX8_breaks_94 (by decide) ?_
        refine gm_vst C hW_132 hS_125 ((44 + 6 * f_10) + 3) (nI_clamp (by omega)) (vp_in_nI (show (44 + 6 * f_10) + 3 < 128 by omega) (by decide)) dX8_breaks_95 (fun H_133 locs_134 hW_135 hS_136 => ?_)
        obtain ⟨w_137, ew_137⟩ : ∃ Z9, Z9 = upd w_126 ((44 + 6 * f_10) + 3) 0 := ⟨_, rfl⟩
        have kn_138 : w_137 (42) = nI km := by rw [ew_137]; exact (pk_un (by omega)).trans kn_127
        have kn_139 : w_137 (43) = nI ki := by rw [ew_137]; exact (pk_un (by omega)).trans kn_128
        have kn_140 : w_137 (44 + 6 * f_10) = 0 := by rw [ew_137]; exact (pk_un (by omega)).trans kn_129
        have kn_141 : w_137 ((44 + 6 * f_10) + 1) = 0 := by rw [ew_137]; exact (pk_un (by omega)).trans kn_130
        have kn_142 : w_137 ((44 + 6 * f_10) + 2) = 0 := by rw [ew_137]; exact (pk_un (by omega)).trans kn_131
        have kn_143 : w_137 ((44 + 6 * f_10) + 3) = 0 := by rw [ew_137]; exact pk_us
        have hW_144 : Wd G (setRow (setRow X 15 (X.1 15)) 16 w_137) H_133 := Wd.cast (by rw [ew_137]; exact st_out) hW_135
        refine lv_iinc (v := 4) (lv' := [(4, .int 4), (3, .int (nI ki)), (2, .int (nI (44 + 6 * f_10))), (0, .ref (ad G 723)), (1, .int (nI f_10))]) hx hb dX8_breaks_96 hl_113 (k := 0) rfl (by decide) (by decide) rfl (fun ls_145 hl_146 => ?_)
        refine lv_goto (tgt := 59) hx hb dX8_breaks_99 (by decide) ?_
        refine lv_iload hx hb dX8_breaks_59 (lv_at hl_146 0 rfl) ?_
        refine lv_iconst (v := 4) hx hb dX8_breaks_61 (by decide) ?_
        refine lv_icmp_ge (tgt := 102) hx hb dX8_breaks_62 (by decide) (fun _ => ?_) (fun h9 => absurd h9 (by decide))
        refine lv_aload_n hx hb dX8_breaks_102 rfl (lv_at hl_146 3 rfl) ?_
        refine gM_v C hW_144 (hwc hwX8) (mc qw_1481) dX8_breaks_103 ?_
        refine lv_iload_n hx hb dX8_breaks_106 rfl (lv_at hl_146 2 rfl) ?_
        refine lv_iconst (v := 5) hx hb dX8_breaks_107 (by decide) ?_
        refine lv_iadd hx hb dX8_breaks_108 ?_
        refine g_top (y := nI ((44 + 6 * f_10) + 5)) (nI_add (44 + 6 * f_10) 5) ?_
        refine lv_iconst (v := 0) hx hb dX8_breaks_109 (by decide) ?_
        refine gm_vst C hW_144 hS_136 ((44 + 6 * f_10) + 5) (nI_clamp (by omega)) (vp_in_nI (show (44 + 6 * f_10) + 5 < 128 by omega) (by decide)) dX8_breaks_110 (fun H_147 locs_148 hW_149 hS_150 => ?_)
        obtain ⟨w_151, ew_151⟩ : ∃ Z9, Z9 = upd w_137 ((44 + 6 * f_10) + 5) 0 := ⟨_, rfl⟩
        have kn_152 : w_151 (42) = nI km := by rw [ew_151]; exact (pk_un (by omega)).trans kn_138
        have kn_153 : w_151 (43) = nI ki := by rw [ew_151]; exact (pk_un (by omega)).trans kn_139
        have kn_154 : w_151 (44 + 6 * f_10) = 0 := by rw [ew_151]; exact (pk_un (by omega)).trans kn_140
        have kn_155 : w_151 ((44 + 6 * f_10) + 1) = 0 := by rw [ew_151]; exact (pk_un (by omega)).trans kn_141
        have kn_156 : w_151 ((44 + 6 * f_10) + 2) = 0 := by rw [ew_151]; exact (pk_un (by omega)).trans kn_142
        have kn_157 : w_151 ((44 + 6 * f_10) + 3) = 0 := by rw [ew_151]; exact (pk_un (by omega)).trans kn_143
        have kn_158 : w_151 ((44 + 6 * f_10) + 5) = 0 := by rw [ew_151]; exact pk_us
        have hW_159 : Wd G (setRow (setRow X 15 (X.1 15)) 16 w_151) H_147 := Wd.cast (by rw [ew_151]; exact st_out) hW_149
        refine lv_aload_n hx hb dX8_breaks_111 rfl (lv_at hl_146 3 rfl) ?_
        refine gM_v C hW_159 (hwc hwX8) (mc qw_1481) dX8_breaks_112 ?_
        refine lv_bipush (v := 43) hx hb dX8_breaks_115 (by decide) ?_
        refine lv_dup2_11 hx hb dX8_breaks_117 rfl rfl ?_
        refine gm_vld C hW_159 43 (by decide) (vlit (by decide)) dX8_breaks_118 ?_
        refine g_top (y := w_151 (43)) (congrFun rd_out _) ?_
        refine g_top (y := nI ki) kn_153 ?_
        refine lv_iconst (v := 1) hx hb dX8_breaks_119 (by decide) ?_
        refine lv_iadd hx hb dX8_breaks_120 ?_
        refine g_top (y := nI (ki + 1)) (nI_add ki 1) ?_
        refine gm_vst C hW_159 hS_150 43 (by decide) (vlit (by decide)) dX8_breaks_121 (fun H_160 locs_161 hW_162 hS_163 => ?_)
        obtain ⟨w_164, ew_164⟩ : ∃ Z9, Z9 = upd w_151 (43) (nI (ki + 1)) := ⟨_, rfl⟩
        have kn_165 : w_164 (42) = nI km := by rw [ew_164]; exact (pk_un (by omega)).trans kn_152
        have kn_166 : w_164 (44 + 6 * f_10) = 0 := by rw [ew_164]; exact (pk_un (by omega)).trans kn_154
        have kn_167 : w_164 ((44 + 6 * f_10) + 1) = 0 := by rw [ew_164]; exact (pk_un (by omega)).trans kn_155
        have kn_168 : w_164 ((44 + 6 * f_10) + 2) = 0 := by rw [ew_164]; exact (pk_un (by omega)).trans kn_156
        have kn_169 : w_164 ((44 + 6 * f_10) + 3) = 0 := by rw [ew_164]; exact (pk_un (by omega)).trans kn_157
        have kn_170 : w_164 ((44 + 6 * f_10) + 5) = 0 := by rw [ew_164]; exact (pk_un (by omega)).trans kn_158
        have kn_171 : w_164 (43) = nI (ki + 1) := by rw [ew_164]; exact pk_us
        have hW_172 : Wd G (setRow (setRow X 15 (X.1 15)) 16 w_164) H_160 := Wd.cast (by rw [ew_164]; exact st_out) hW_162
        refine lv_iload_n hx hb dX8_breaks_122 rfl (lv_at hl_146 1 rfl) ?_
        exact g_iret C hr hlk hW_172 hS_163 dX8_breaks_123 (by subst ew_164; subst ew_151; subst ew_137; subst ew_126; subst ew_105; subst ew_95; subst ew_75; subst ew_66; subst ew_47; subst ew_39; exact ⟨(by first | rfl | (simp only [oM_breaks, clf (show f_10 < 2 ^ 31 by omega), b_9, b_23, b_24, if_true, if_false, em, ei, clf (show km < 2 ^ 31 by omega), clf (show ki < 2 ^ 31 by omega), nI_1]; first | done | rfl)), (by first | rfl | (simp only [oM_breaks, clf (show f_10 < 2 ^ 31 by omega), b_9, b_23, b_24, if_true, if_false, em, ei, clf (show km < 2 ^ 31 by omega), clf (show ki < 2 ^ 31 by omega), nI_1]; first | done | rfl))⟩)
      · have fb_24 : ki = 12 := (nI_eq (a := ki) (b := 12) (by omega) (by omega)).mp b_24
        refine lv_aload_n hx hb dX8_breaks_50 rfl (lv_at hl_22 2 rfl) ?_
        refine lv_iconst (v := 3) hx hb dX8_breaks_51 (by decide) ?_
        refine g_calli (va_runV (As := [.int 3]) (rest := []) C.1 (cX8_fail_ok l G (setRow (setRow X 15 (X.1 15)) 16 (X.1 16)) 3) (cwV 1 C.1.2.2.2.2 (gV qw_1571 qw_1573 qw_31 qw_81 qw_1574) rfl rfl rfl (by decide +kernel) ⟨Nat.le_of_ble_eq_true rfl, Nat.le_of_ble_eq_true rfl⟩) (g_rModel C hW_16 hS_17 [.int 3]) rfl rfl hl_22.1 rfl (lv_room (Nat.le_of_ble_eq_true rfl)) dX8_breaks_52 ⟨Nat.zero_le _, Nat.zero_le _⟩) hS_17 (fun r_174 Y_175 H_176 locs_177 hW_178 hS_179 h_173 => ?_)
        obtain ⟨h_180, h_173⟩ := h_173
        replace h_180 : r_174 = (oM_fail (X.1 15) 3).1 := h_180
        subst h_180
        replace h_173 : Y_175 = setRow (setRow (setRow X 15 (X.1 15)) 16 (X.1 16)) 15 ((oM_fail (X.1 15) 3).2) := h_173
        obtain ⟨w_181, ew_181⟩ : ∃ Z9, Z9 = (oM_fail (X.1 15) 3).2 := ⟨_, rfl⟩
        have qqw_181 : Y_175 = setRow (setRow (setRow X 15 (X.1 15)) 16 (X.1 16)) 15 w_181 := by rw [h_173, ew_181]
        have hW_182 : Wd G (setRow (setRow X 15 w_181) 16 (X.1 16)) H_176 := Wd.cast ((qqw_181).trans (congrArg (fun Z9 => Z9) (sr_in (by decide) sr_out))) hW_178
        exact g_iret C hr hlk hW_182 hS_179 dX8_breaks_55 (by subst ew_181; exact ⟨(by first | rfl | (simp only [oM_breaks, clf (show f_10 < 2 ^ 31 by omega), b_9, b_23, eq_true b_24, if_true, if_false, em, ei, clf (show km < 2 ^ 31 by omega), clf (show ki < 2 ^ 31 by omega), nI_1]; first | done | rfl)), (by first | rfl | (simp only [oM_breaks, clf (show f_10 < 2 ^ 31 by omega), b_9, b_23, eq_true b_24, if_true, if_false, em, ei, clf (show km < 2 ^ 31 by omega), clf (show ki < 2 ^ 31 by omega), nI_1]; first | done | rfl))⟩)
    · refine lv_aload_n hx hb dX8_breaks_38 rfl (lv_at hl_22 2 rfl) ?_
      refine lv_iconst (v := 2) hx hb dX8_breaks_39 (by decide) ?_
      refine g_calli (va_runV (As := [.int 2]) (rest := []) C.1 (cX8_fail_ok l G (setRow (setRow X 15 (X.1 15)) 16 (X.1 16)) 2) (cwV 1 C.1.2.2.2.2 (gV qw_1571 qw_1573 qw_31 qw_81 qw_1574) rfl rfl rfl (by decide +kernel) ⟨Nat.le_of_ble_eq_true rfl, Nat.le_of_ble_eq_true rfl⟩) (g_rModel C hW_16 hS_17 [.int 2]) rfl rfl hl_22.1 rfl (lv_room (Nat.le_of_ble_eq_true rfl)) dX8_breaks_40 ⟨Nat.zero_le _, Nat.zero_le _⟩) hS_17 (fun r_184 Y_185 H_186 locs_187 hW_188 hS_189 h_183 => ?_)
      obtain ⟨h_190, h_183⟩ := h_183
      replace h_190 : r_184 = (oM_fail (X.1 15) 2).1 := h_190
      subst h_190
      replace h_183 : Y_185 = setRow (setRow (setRow X 15 (X.1 15)) 16 (X.1 16)) 15 ((oM_fail (X.1 15) 2).2) := h_183
      obtain ⟨w_191, ew_191⟩ : ∃ Z9, Z9 = (oM_fail (X.1 15) 2).2 := ⟨_, rfl⟩
      have qqw_191 : Y_185 = setRow (setRow (setRow X 15 (X.1 15)) 16 (X.1 16)) 15 w_191 := by rw [h_183, ew_191]
      have hW_192 : Wd G (setRow (setRow X 15 w_191) 16 (X.1 16)) H_186 := Wd.cast ((qqw_191).trans (congrArg (fun Z9 => Z9) (sr_in (by decide) sr_out))) hW_188
      exact g_iret C hr hlk hW_192 hS_189 dX8_breaks_43 (by subst ew_191; exact ⟨(by first | rfl | (simp only [oM_breaks, clf (show f_10 < 2 ^ 31 by omega), b_9, eq_true b_23, if_true, if_false, em, ei, clf (show km < 2 ^ 31 by omega), clf (show ki < 2 ^ 31 by omega), nI_1]; first | done | rfl)), (by first | rfl | (simp only [oM_breaks, clf (show f_10 < 2 ^ 31 by omega), b_9, eq_true b_23, if_true, if_false, em, ei, clf (show km < 2 ^ 31 by omega), clf (show ki < 2 ^ 31 by omega), nI_1]; first | done | rfl))⟩)
  · refine lv_aload_n hx hb dX8_breaks_8 rfl (lv_at hl 0 rfl) ?_
    refine lv_iconst (v := 1) hx hb dX8_breaks_9 (by decide) ?_
    refine g_calli (va_runV (As := [.int 1]) (rest := []) C.1 (cX8_fail_ok l G (setRow (setRow X 15 (X.1 15)) 16 (X.1 16)) 1) (cwV 1 C.1.2.2.2.2 (gV qw_1571 qw_1573 qw_31 qw_81 qw_1574) rfl rfl rfl (by decide +kernel) ⟨Nat.le_of_ble_eq_true rfl, Nat.le_of_ble_eq_true rfl⟩) (g_rModel C hW_6 hS_7 [.int 1]) rfl rfl hl.1 rfl (lv_room (Nat.le_of_ble_eq_true rfl)) dX8_breaks_10 ⟨Nat.zero_le _, Nat.zero_le _⟩) hS_7 (fun r_194 Y_195 H_196 locs_197 hW_198 hS_199 h_193 => ?_)
    obtain ⟨h_200, h_193⟩ := h_193
    replace h_200 : r_194 = (oM_fail (X.1 15) 1).1 := h_200
    subst h_200
    replace h_193 : Y_195 = setRow (setRow (setRow X 15 (X.1 15)) 16 (X.1 16)) 15 ((oM_fail (X.1 15) 1).2) := h_193
    obtain ⟨w_201, ew_201⟩ : ∃ Z9, Z9 = (oM_fail (X.1 15) 1).2 := ⟨_, rfl⟩
    have qqw_201 : Y_195 = setRow (setRow (setRow X 15 (X.1 15)) 16 (X.1 16)) 15 w_201 := by rw [h_193, ew_201]
    have hW_202 : Wd G (setRow (setRow X 15 w_201) 16 (X.1 16)) H_196 := Wd.cast ((qqw_201).trans (congrArg (fun Z9 => Z9) (sr_in (by decide) sr_out))) hW_198
    exact g_iret C hr hlk hW_202 hS_199 dX8_breaks_13 (by subst ew_201; exact ⟨(by first | rfl | (simp only [oM_breaks, eq_true b_9, if_true, if_false, em, ei, clf (show km < 2 ^ 31 by omega), clf (show ki < 2 ^ 31 by omega), nI_1]; first | done | rfl)), (by first | rfl | (simp only [oM_breaks, eq_true b_9, if_true, if_false, em, ei, clf (show km < 2 ^ 31 by omega), clf (show ki < 2 ^ 31 by omega), nI_1]; first | done | rfl))⟩)
