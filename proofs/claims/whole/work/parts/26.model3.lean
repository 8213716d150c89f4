/-! The reference's changes. -/
theorem nz_take {w : Nat → Int32} {i N k : Nat} {x : Int32} (h : ∃ s, s ≤ N ∧ MixS w i s) (hN : N ≤ 1000) (hx : x = nI k) (h1 : 1 ≤ k) (h2 : k ≤ 1000) (hle : x ≤ oM_mass w i) : ¬ oM_mass w i = 0 := by
  obtain ⟨s, hs, hm⟩ := h
  rw [hm.mass, hx] at hle
  rw [hm.mass]
  exact nz_of rfl (Nat.lt_of_lt_of_le h1 ((nI_leI (by omega) (by omega)).mp hle)) (by omega)
theorem nz_fill {w p : Nat → Int32} {i i2 N M k : Nat} {x : Int32} (h : ∃ s, s ≤ N ∧ MixS w i s) (h' : ∃ s, s ≤ M ∧ MixS w i2 s) (hN : N ≤ 1000) (hM : M ≤ 1000) (hx : x = nI k) (h1 : 1 ≤ k) (h2 : k ≤ 1000) (hle : x ≤ oM_mass w i) (hd : i2 + 4 ≤ i ∨ i + 4 ≤ i2) :
    ¬ oM_mass (oM_takes w p i x).1 i2 + oM_partMass (oM_takes w p i x).2 = 0 := by
  obtain ⟨s, hs, hm⟩ := h
  obtain ⟨t, ht, hm2⟩ := h'
  rw [hm.mass, hx] at hle
  have hks : k ≤ s := (nI_leI (by omega) (by omega)).mp hle
  rw [hx]
  have T := takes_ok (p := p) hm (by omega) (by omega) hks
  rw [(hm2.congr fun j hj => T.2.2 (i2 + j) (by omega)).mass, T.2.1.part, nI_add]
  exact nz_of rfl (by omega) (by omega)
theorem kp_cools {w : Nat → Int32} {l j : Nat} (h : j ≠ 27 + 5 * l + 4) : oM_cools w l j = w j := by
  unfold oM_cools
  split
  · exact pk_un h
  · rfl
theorem nz_backs {w p : Nat → Int32} {l f : Nat} (h : ∃ s, s ≤ 40 ∧ MixS w (27 + 5 * l) s) (h' : ∃ s, s ≤ 100 ∧ MixS w (9 + 6 * f) s) (h0 : ¬ oM_mass w (27 + 5 * l) = 0) (hd : f < 3) :
    ¬ oM_mass (oM_cools (oM_takes w p (27 + 5 * l) (oM_mass w (27 + 5 * l))).1 l) (9 + 6 * f) + 10 + oM_partMass (oM_takes w p (27 + 5 * l) (oM_mass w (27 + 5 * l))).2 = 0 := by
  obtain ⟨s, hs, hm⟩ := h
  rw [hm.mass] at h0 ⊢
  have hs0 : 0 < s := Nat.pos_of_ne_zero fun q => h0 (by rw [q]; rfl)
  have T := takes_ok (p := p) hm (by omega) hs0 (Nat.le_refl s)
  refine nz_feed (s := s) h' (fun j hj => ?_) T.2.1 (by omega)
  rw [kp_cools (by omega), T.2.2 _ (by omega)]
theorem nz_pour {w : Nat → Int32} {i N : Nat} {x : Int32} (h : ∃ s, s ≤ N ∧ MixS w i s) (hv : ∃ v, 1 ≤ v ∧ v ≤ 40 ∧ x = nI v) (hN : N ≤ 1000) (hle : x ≤ oM_mass w i) : ¬ oM_mass w i = 0 := by
  obtain ⟨v, h1, h2, h3⟩ := hv
  exact nz_take h hN h3 h1 (by omega) hle
def chP (p : Nat → Int32) (kind mass : Int32) : Nat → Int32 := upd (upd (upd (upd p 0 (if 0 = kind then mass else 0)) 1 (if 1 = kind then mass else 0)) 2 (if 2 = kind then mass else 0)) 3 (if 3 = kind then mass else 0)
def oM_charges (w15 : Nat → Int32) (w16 : Nat → Int32) (w20 : Nat → Int32) (f : Int32) (kind : Int32) (mass : Int32) : Int32 × ((Nat → Int32) × ((Nat → Int32) × (Nat → Int32))) := 
  if oM_isThree f = 0 then ((oM_fail w15 1).1, (oM_fail w15 1).2, w16, w20)
  else if kind < 0 then ((oM_fail w15 2).1, (oM_fail w15 2).2, w16, w20)
  else if oM_isIn mass 1 50 = 0 then ((oM_fail w15 2).1, (oM_fail w15 2).2, w16, w20)
  else if oM_mass w16 (9 + 6 * f.toNatClampNeg) + mass ≤ 100 then
    ((oM_feeds (upd w16 (1 + kind.toNatClampNeg) (w16 (1 + kind.toNatClampNeg) + mass)) (chP w20 kind mass) f.toNatClampNeg 20).1, w15,
     (oM_feeds (upd w16 (1 + kind.toNatClampNeg) (w16 (1 + kind.toNatClampNeg) + mass)) (chP w20 kind mass) f.toNatClampNeg 20).2, chP w20 kind mass)
  else ((oM_fail w15 3).1, (oM_fail w15 3).2, w16, w20)
set_option maxHeartbeats 4000000 in
set_option maxRecDepth 100000 in
theorem cX8_charges_ok (l : Launch) (G : GT) (X : St) (f : Int32) (kind : Int32) (mass : Int32) (hm : MInv (X.1 16)) (hk4 : ¬ kind < 0 → ∃ k, k < 4 ∧ kind = nI k) : MetI l G yX8_charges (wsG yX8_charges cX8_charges 5 (some .int)) (rmz 2 47) [.ref (ad G 723), .int f, .int kind, .int mass] X (fun res Y => res = (oM_charges (X.1 15) (X.1 16) (X.1 20) f kind mass).1 ∧ Y = setRow (setRow (setRow (X) 15 ((oM_charges (X.1 15) (X.1 16) (X.1 20) f kind mass).2.1)) 16 ((oM_charges (X.1 15) (X.1 16) (X.1 20) f kind mass).2.2.1)) 20 ((oM_charges (X.1 15) (X.1 16) (X.1 20) f kind mass).2.2.2)) := by
  refine g_met (cc := cX8_charges) (maxL := 5) (ret := (some .int)) (by decide) rfl (Nat.le_of_ble_eq_true rfl) ?_
  intro p e s m below meth c ls C hr hlk hnm hW hl
  have hx := C.1.1
  have hb := C.1.2.1
  have hS : va_S (Ab G) s.heap s.heap [] := va_S.rf
  have hl : lv_has ls 5 [(0, .ref (ad G 723)), (1, .int f), (2, .int kind), (3, .int mass)] := hl
  have hW : Wd G (setRow (setRow (setRow (X) 15 (X.1 15)) 16 (X.1 16)) 20 (X.1 20)) s.heap := Wd.cast ((((sr_same (X := setRow (setRow (X) 15 (X.1 15)) 16 (X.1 16)) (r := 20) rfl).trans (sr_same (X := setRow (X) 15 (X.1 15)) (r := 16) rfl)).trans (sr_same (X := X) (r := 15) rfl))).symm hW
  refine lv_iload_n hx hb dX8_charges_0 rfl (lv_at hl 1 rfl) ?_
  refine g_calli (va_runS (As := [.int f]) (rest := []) C.1 (cX8_isThree_ok l G (setRow (setRow (setRow X 15 (X.1 15)) 16 (X.1 16)) 20 (X.1 20)) f) (va_cwS 1 C.1.2.2.2.2 (gS qw_1565 qw_1566 qw_81 qw_1567) rfl rfl rfl (by decide +kernel) ⟨Nat.le_of_ble_eq_true rfl, Nat.le_of_ble_eq_true rfl⟩) (g_pre C hW hS [.int f]) rfl rfl hl.1 rfl (lv_room (Nat.le_of_ble_eq_true rfl)) dX8_charges_1 ⟨Nat.zero_le _, Nat.zero_le _⟩) hS (fun r_2 Y_3 H_4 locs_5 hW_6 hS_7 h_1 => ?_)
  obtain ⟨h_1, hy_8⟩ := h_1
  replace hy_8 := hy_8.symm
  subst hy_8
  replace h_1 : r_2 = oM_isThree f := h_1
  subst h_1
  refine lv_if_ne (tgt := 13) hx hb dX8_charges_4 (by decide) (fun b_9 => ?_) (fun b_9 => ?_)
  · obtain ⟨f_10, hf_10, rfl⟩ := three_in b_9
    refine lv_iload_n hx hb dX8_charges_13 rfl (lv_at hl 2 rfl) ?_
    refine lv_if_lt (tgt := 27) hx hb dX8_charges_14 (by decide) (fun b_11 => ?_) (fun b_11 => ?_)
    · refine lv_aload_n hx hb dX8_charges_27 rfl (lv_at hl 0 rfl) ?_
      refine lv_iconst (v := 2) hx hb dX8_charges_28 (by decide) ?_
      refine g_calli (va_runV (As := [.int 2]) (rest := []) C.1 (cX8_fail_ok l G (setRow (setRow (setRow X 15 (X.1 15)) 16 (X.1 16)) 20 (X.1 20)) 2) (cwV 1 C.1.2.2.2.2 (gV qw_1571 qw_1573 qw_31 qw_81 qw_1574) rfl rfl rfl (by decide +kernel) ⟨Nat.le_of_ble_eq_true rfl, Nat.le_of_ble_eq_true rfl⟩) (g_rModel C hW_6 hS_7 [.int 2]) rfl rfl hl.1 rfl (lv_room (Nat.le_of_ble_eq_true rfl)) dX8_charges_29 ⟨Nat.zero_le _, Nat.zero_le _⟩) hS_7 (fun r_13 Y_14 H_15 locs_16 hW_17 hS_18 h_12 => ?_)
      obtain ⟨h_19, h_12⟩ := h_12
      replace h_19 : r_13 = (oM_fail (X.1 15) 2).1 := h_19
      subst h_19
      replace h_12 : Y_14 = setRow (setRow (setRow (setRow X 15 (X.1 15)) 16 (X.1 16)) 20 (X.1 20)) 15 ((oM_fail (X.1 15) 2).2) := h_12
      obtain ⟨w_20, ew_20⟩ : ∃ Z9, Z9 = (oM_fail (X.1 15) 2).2 := ⟨_, rfl⟩
      have qqw_20 : Y_14 = setRow (setRow (setRow (setRow X 15 (X.1 15)) 16 (X.1 16)) 20 (X.1 20)) 15 w_20 := by rw [h_12, ew_20]
      have hW_21 : Wd G (setRow (setRow (setRow X 15 w_20) 16 (X.1 16)) 20 (X.1 20)) H_15 := Wd.cast ((qqw_20).trans (congrArg (fun Z9 => Z9) (sr_in (by decide) (sr_in (by decide) sr_out)))) hW_17
      exact g_iret C hr hlk hW_21 hS_18 dX8_charges_32 (by subst ew_20; exact ⟨(by first | rfl | (simp only [oM_charges, clf (show f_10 < 2 ^ 31 by omega), b_9, b_11, if_true, if_false, chP]; first | done | rfl)), (by first | rfl | (simp only [oM_charges, clf (show f_10 < 2 ^ 31 by omega), b_9, b_11, if_true, if_false, chP]; first | done | rfl))⟩)
    · obtain ⟨f_22, hf_22, rfl⟩ := hk4 b_11
      refine lv_iload_n hx hb dX8_charges_17 rfl (lv_at hl 3 rfl) ?_
      refine lv_iconst (v := 1) hx hb dX8_charges_18 (by decide) ?_
      refine lv_bipush (v := 50) hx hb dX8_charges_19 (by decide) ?_
      refine g_calli (va_runS (As := [.int mass, .int 1, .int 50]) (rest := []) C.1 (cX8_isIn_ok l G (setRow (setRow (setRow X 15 (X.1 15)) 16 (X.1 16)) 20 (X.1 20)) mass 1 50) (va_cwS 3 C.1.2.2.2.2 (gS qw_1568 qw_1569 qw_81 qw_1570) rfl rfl rfl (by decide +kernel) ⟨Nat.le_of_ble_eq_true rfl, Nat.le_of_ble_eq_true rfl⟩) (g_pre C hW_6 hS_7 [.int mass, .int 1, .int 50]) rfl rfl hl.1 rfl (lv_room (Nat.le_of_ble_eq_true rfl)) dX8_charges_21 ⟨Nat.zero_le _, Nat.zero_le _⟩) hS_7 (fun r_24 Y_25 H_26 locs_27 hW_28 hS_29 h_23 => ?_)
      obtain ⟨h_23, hy_30⟩ := h_23
      replace hy_30 := hy_30.symm
      subst hy_30
      replace h_23 : r_24 = oM_isIn mass 1 50 := h_23
      subst h_23
      refine lv_if_ne (tgt := 33) hx hb dX8_charges_24 (by decide) (fun b_31 => ?_) (fun b_31 => ?_)
      · obtain ⟨k0, hk01, hk02, hk03⟩ := isIn_nat (a := 1) (b := 50) (by decide) (by decide) b_31
        refine lv_aload_n hx hb dX8_charges_33 rfl (lv_at hl 0 rfl) ?_
        refine lv_iload_n hx hb dX8_charges_34 rfl (lv_at hl 1 rfl) ?_
        refine g_calli (va_runS (As := [.int (nI f_10)]) (rest := [.ref (ad G 723)]) C.1 (cX8_furnace_ok l G (setRow (setRow (setRow X 15 (X.1 15)) 16 (X.1 16)) 20 (X.1 20)) (nI f_10)) (va_cwS 1 C.1.2.2.2.2 (gS qw_1470 qw_1471 qw_81 qw_1472) rfl rfl rfl (by decide +kernel) ⟨Nat.le_of_ble_eq_true rfl, Nat.le_of_ble_eq_true rfl⟩) (g_pre C hW_28 hS_29 [.int (nI f_10)]) rfl rfl hl.1 rfl (lv_room (Nat.le_of_ble_eq_true rfl)) dX8_charges_35 ⟨Nat.zero_le _, Nat.zero_le _⟩) hS_29 (fun r_33 Y_34 H_35 locs_36 hW_37 hS_38 h_32 => ?_)
        obtain ⟨h_32, hy_39⟩ := h_32
        replace hy_39 := hy_39.symm
        subst hy_39
        replace h_32 : r_33 = oM_furnace (nI f_10) := h_32
        subst h_32
        refine g_top (y := nI (9 + 6 * f_10)) (at_furnace f_10) ?_
        refine g_calli (va_runV (As := [.int (nI (9 + 6 * f_10))]) (rest := []) C.1 (cX8_mass_ok l G (setRow (setRow (setRow X 15 (X.1 15)) 16 (X.1 16)) 20 (X.1 20)) (9 + 6 * f_10) (show 9 + 6 * f_10 + 4 ≤ 128 by omega)) (cwV 1 C.1.2.2.2.2 (gV qw_1575 qw_1577 qw_32 qw_81 qw_1578) rfl rfl rfl (by decide +kernel) ⟨Nat.le_of_ble_eq_true rfl, Nat.le_of_ble_eq_true rfl⟩) (g_rModel C hW_37 hS_38 [.int (nI (9 + 6 * f_10))]) rfl rfl hl.1 rfl (lv_room (Nat.le_of_ble_eq_true rfl)) dX8_charges_38 ⟨Nat.zero_le _, Nat.zero_le _⟩) hS_38 (fun r_41 Y_42 H_43 locs_44 hW_45 hS_46 h_40 => ?_)
        obtain ⟨h_40, hy_47⟩ := h_40
        replace hy_47 := hy_47.symm
        subst hy_47
        replace h_40 : r_41 = oM_mass (X.1 16) (9 + 6 * f_10) := h_40
        subst h_40
        refine lv_iload_n hx hb dX8_charges_41 rfl (lv_at hl 3 rfl) ?_
        refine lv_iadd hx hb dX8_charges_42 ?_
        refine lv_bipush (v := 100) hx hb dX8_charges_43 (by decide) ?_
        refine lv_icmp_le (tgt := 54) hx hb dX8_charges_45 (by decide) (fun b_48 => ?_) (fun b_48 => ?_)
        · refine lv_iconst (v := 0) hx hb dX8_charges_54 (by decide) ?_
          refine lv_istore (lv' := [(4, .int 0), (0, .ref (ad G 723)), (1, .int (nI f_10)), (2, .int (nI f_22)), (3, .int mass)]) hx hb dX8_charges_55 hl (by decide) rfl (fun ls_49 hl_50 => ?_)
          refine lv_iload hx hb dX8_charges_57 (lv_at hl_50 0 rfl) ?_
          refine lv_iconst (v := 4) hx hb dX8_charges_59 (by decide) ?_
          refine lv_icmp_ge (tgt := 87) hx hb dX8_charges_60 (by decide) (fun h9 => absurd h9 (by decide)) (fun _ => ?_)
          refine lv_aload_n hx hb dX8_charges_63 rfl (lv_at hl_50 1 rfl) ?_
          refine gM_part C hW_45 (hwc hwX8) (mc qw_1485) dX8_charges_64 ?_
          refine lv_iload hx hb dX8_charges_67 (lv_at hl_50 0 rfl) ?_
          refine lv_iload hx hb dX8_charges_69 (lv_at hl_50 0 rfl) ?_
          refine lv_iload_n hx hb dX8_charges_71 rfl (lv_at hl_50 3 rfl) ?_
          refine lv_icmp_ne (tgt := 79) hx hb dX8_charges_72 (by decide) (fun b_51 => ?_) (fun b_51 => ?_)
          · have fb_51 : ¬ 0 = f_22 := fun q9 => b_51 ((nI_eq (a := 0) (b := f_22) (by omega) (by omega)).mpr q9)
            refine lv_iconst (v := 0) hx hb dX8_charges_79 (by decide) ?_
            refine gm_partst C hW_45 hS_46 0 (by decide) (vlit (by decide)) dX8_charges_80 (fun H_52 locs_53 hW_54 hS_55 => ?_)
            obtain ⟨w_56, ew_56⟩ : ∃ Z9, Z9 = upd (X.1 20) (0) 0 := ⟨_, rfl⟩
            have hW_57 : Wd G (setRow (setRow (setRow X 15 (X.1 15)) 16 (X.1 16)) 20 w_56) H_52 := Wd.cast (by rw [ew_56]; exact st_out) hW_54
            refine lv_iinc (v := 1) (lv' := [(4, .int 1), (0, .ref (ad G 723)), (1, .int (nI f_10)), (2, .int (nI f_22)), (3, .int mass)]) hx hb dX8_charges_81 hl_50 (k := 0) rfl (by decide) (by decide) rfl (fun ls_58 hl_59 => ?_)
            refine lv_goto (tgt := 57) hx hb dX8_charges_84 (by decide) ?_
            refine lv_iload hx hb dX8_charges_57 (lv_at hl_59 0 rfl) ?_
            refine lv_iconst (v := 4) hx hb dX8_charges_59 (by decide) ?_
            refine lv_icmp_ge (tgt := 87) hx hb dX8_charges_60 (by decide) (fun h9 => absurd h9 (by decide)) (fun _ => ?_)
            refine lv_aload_n hx hb dX8_charges_63 rfl (lv_at hl_59 1 rfl) ?_
            refine gM_part C hW_57 (hwc hwX8) (mc qw_1485) dX8_charges_64 ?_
            refine lv_iload hx hb dX8_charges_67 (lv_at hl_59 0 rfl) ?_
            refine lv_iload hx hb dX8_charges_69 (lv_at hl_59 0 rfl) ?_
            refine lv_iload_n hx hb dX8_charges_71 rfl (lv_at hl_59 3 rfl) ?_
            refine lv_icmp_ne (tgt := 79) hx hb dX8_charges_72 (by decide) (fun b_60 => ?_) (fun b_60 => ?_)
            · have fb_60 : ¬ 1 = f_22 := fun q9 => b_60 ((nI_eq (a := 1) (b := f_22) (by omega) (by omega)).mpr q9)
              refine lv_iconst (v := 0) hx hb dX8_charges_79 (by decide) ?_
              refine gm_partst C hW_57 hS_55 1 (by decide) (vlit (by decide)) dX8_charges_80 (fun H_61 locs_62 hW_63 hS_64 => ?_)
              obtain ⟨w_65, ew_65⟩ : ∃ Z9, Z9 = upd w_56 (1) 0 := ⟨_, rfl⟩
              have hW_66 : Wd G (setRow (setRow (setRow X 15 (X.1 15)) 16 (X.1 16)) 20 w_65) H_61 := Wd.cast (by rw [ew_65]; exact st_out) hW_63
              refine lv_iinc (v := 2) (lv' := [(4, .int 2), (0, .ref (ad G 723)), (1, .int (nI f_10)), (2, .int (nI f_22)), (3, .int mass)]) hx hb dX8_charges_81 hl_59 (k := 0) rfl (by decide) (by decide) rfl (fun ls_67 hl_68 => ?_)
              refine lv_goto (tgt := 57) hx hb dX8_charges_84 (by decide) ?_
              refine lv_iload hx hb dX8_charges_57 (lv_at hl_68 0 rfl) ?_
              refine lv_iconst (v := 4) hx hb dX8_charges_59 (by decide) ?_
              refine lv_icmp_ge (tgt := 87) hx hb dX8_charges_60 (by decide) (fun h9 => absurd h9 (by decide)) (fun _ => ?_)
              refine lv_aload_n hx hb dX8_charges_63 rfl (lv_at hl_68 1 rfl) ?_
              refine gM_part C hW_66 (hwc hwX8) (mc qw_1485) dX8_charges_64 ?_
              refine lv_iload hx hb dX8_charges_67 (lv_at hl_68 0 rfl) ?_
              refine lv_iload hx hb dX8_charges_69 (lv_at hl_68 0 rfl) ?_
              refine lv_iload_n hx hb dX8_charges_71 rfl (lv_at hl_68 3 rfl) ?_
              refine lv_icmp_ne (tgt := 79) hx hb dX8_charges_72 (by decide) (fun b_69 => ?_) (fun b_69 => ?_)
              · have fb_69 : ¬ 2 = f_22 := fun q9 => b_69 ((nI_eq (a := 2) (b := f_22) (by omega) (by omega)).mpr q9)
                refine lv_iconst (v := 0) hx hb dX8_charges_79 (by decide) ?_
                refine gm_partst C hW_66 hS_64 2 (by decide) (vlit (by decide)) dX8_charges_80 (fun H_70 locs_71 hW_72 hS_73 => ?_)
                obtain ⟨w_74, ew_74⟩ : ∃ Z9, Z9 = upd w_65 (2) 0 := ⟨_, rfl⟩
                have hW_75 : Wd G (setRow (setRow (setRow X 15 (X.1 15)) 16 (X.1 16)) 20 w_74) H_70 := Wd.cast (by rw [ew_74]; exact st_out) hW_72
                refine lv_iinc (v := 3) (lv' := [(4, .int 3), (0, .ref (ad G 723)), (1, .int (nI f_10)), (2, .int (nI f_22)), (3, .int mass)]) hx hb dX8_charges_81 hl_68 (k := 0) rfl (by decide) (by decide) rfl (fun ls_76 hl_77 => ?_)
                refine lv_goto (tgt := 57) hx hb dX8_charges_84 (by decide) ?_
                refine lv_iload hx hb dX8_charges_57 (lv_at hl_77 0 rfl) ?_
                refine lv_iconst (v := 4) hx hb dX8_charges_59 (by decide) ?_
                refine lv_icmp_ge (tgt := 87) hx hb dX8_charges_60 (by decide) (fun h9 => absurd h9 (by decide)) (fun _ => ?_)
                refine lv_aload_n hx hb dX8_charges_63 rfl (lv_at hl_77 1 rfl) ?_
                refine gM_part C hW_75 (hwc hwX8) (mc qw_1485) dX8_charges_64 ?_
                refine lv_iload hx hb dX8_charges_67 (lv_at hl_77 0 rfl) ?_
                refine lv_iload hx hb dX8_charges_69 (lv_at hl_77 0 rfl) ?_
                refine lv_iload_n hx hb dX8_charges_71 rfl (lv_at hl_77 3 rfl) ?_
                refine lv_icmp_ne (tgt := 79) hx hb dX8_charges_72 (by decide) (fun b_78 => ?_) (fun b_78 => ?_)
                · have fb_78 : ¬ 3 = f_22 := fun q9 => b_78 ((nI_eq (a := 3) (b := f_22) (by omega) (by omega)).mpr q9)
                  refine lv_iconst (v := 0) hx hb dX8_charges_79 (by decide) ?_
                  refine gm_partst C hW_75 hS_73 3 (by decide) (vlit (by decide)) dX8_charges_80 (fun H_79 locs_80 hW_81 hS_82 => ?_)
                  obtain ⟨w_83, ew_83⟩ : ∃ Z9, Z9 = upd w_74 (3) 0 := ⟨_, rfl⟩
                  have hW_84 : Wd G (setRow (setRow (setRow X 15 (X.1 15)) 16 (X.1 16)) 20 w_83) H_79 := Wd.cast (by rw [ew_83]; exact st_out) hW_81
                  refine lv_iinc (v := 4) (lv' := [(4, .int 4), (0, .ref (ad G 723)), (1, .int (nI f_10)), (2, .int (nI f_22)), (3, .int mass)]) hx hb dX8_charges_81 hl_77 (k := 0) rfl (by decide) (by decide) rfl (fun ls_85 hl_86 => ?_)
                  refine lv_goto (tgt := 57) hx hb dX8_charges_84 (by decide) ?_
                  refine lv_iload hx hb dX8_charges_57 (lv_at hl_86 0 rfl) ?_
                  refine lv_iconst (v := 4) hx hb dX8_charges_59 (by decide) ?_
                  refine lv_icmp_ge (tgt := 87) hx hb dX8_charges_60 (by decide) (fun _ => ?_) (fun h9 => absurd h9 (by decide))
                  refine lv_aload_n hx hb dX8_charges_87 rfl (lv_at hl_86 1 rfl) ?_
                  refine gM_v C hW_84 (hwc hwX8) (mc qw_1481) dX8_charges_88 ?_
                  refine lv_iconst (v := 1) hx hb dX8_charges_91 (by decide) ?_
                  refine lv_iload_n hx hb dX8_charges_92 rfl (lv_at hl_86 3 rfl) ?_
                  refine lv_iadd hx hb dX8_charges_93 ?_
                  refine g_top (y := nI (1 + f_22)) (nI_add 1 f_22) ?_
                  refine lv_dup2_11 hx hb dX8_charges_94 rfl rfl ?_
                  refine gm_vld C hW_84 (1 + f_22) (nI_clamp (by omega)) (vp_in_nI (show 1 + f_22 < 128 by omega) (by decide)) dX8_charges_95 ?_
                  refine g_top (y := X.1 16 (1 + f_22)) (congrFun (rd_in (by decide) rd_out) _) ?_
                  refine lv_iload_n hx hb dX8_charges_96 rfl (lv_at hl_86 4 rfl) ?_
                  refine lv_iadd hx hb dX8_charges_97 ?_
                  refine gm_vst C hW_84 hS_82 (1 + f_22) (nI_clamp (by omega)) (vp_in_nI (show 1 + f_22 < 128 by omega) (by decide)) dX8_charges_98 (fun H_87 locs_88 hW_89 hS_90 => ?_)
                  obtain ⟨w_91, ew_91⟩ : ∃ Z9, Z9 = upd (X.1 16) (1 + f_22) ((X.1 16 (1 + f_22)) + mass) := ⟨_, rfl⟩
                  have hW_92 : Wd G (setRow (setRow (setRow X 15 (X.1 15)) 16 w_91) 20 w_83) H_87 := Wd.cast (by rw [ew_91]; exact (st_in (by decide) st_out)) hW_89
                  refine lv_aload_n hx hb dX8_charges_99 rfl (lv_at hl_86 1 rfl) ?_
                  refine lv_iload_n hx hb dX8_charges_100 rfl (lv_at hl_86 2 rfl) ?_
                  refine lv_bipush (v := 20) hx hb dX8_charges_101 (by decide) ?_
                  refine g_calli (va_runV (As := [.int (nI f_10), .int 20]) (rest := []) C.1 (cX8_feeds_ok l G (setRow (setRow (setRow X 15 (X.1 15)) 16 w_91) 20 w_83) f_10 20 (show f_10 < 3 by omega) (nz_feed (s := 0 + 0 + 0 + 0) (hm.1 f_10 (by omega)) (fun j hj => by rw [ew_91]; exact pk_un (by omega)) ⟨0, 0, 0, 0, (by subst ew_91; subst ew_83; subst ew_74; subst ew_65; subst ew_56; rfl), (by subst ew_91; subst ew_83; subst ew_74; subst ew_65; subst ew_56; rfl), (by subst ew_91; subst ew_83; subst ew_74; subst ew_65; subst ew_56; rfl), (by subst ew_91; subst ew_83; subst ew_74; subst ew_65; subst ew_56; rfl), rfl⟩ (by omega))) (cwV 2 C.1.2.2.2.2 (gV qw_1579 qw_1581 qw_33 qw_81 qw_1582) rfl rfl rfl (by decide +kernel) ⟨Nat.le_of_ble_eq_true rfl, Nat.le_of_ble_eq_true rfl⟩) (g_rModel C hW_92 hS_90 [.int (nI f_10), .int 20]) rfl rfl hl_86.1 rfl (lv_room (Nat.le_of_ble_eq_true rfl)) dX8_charges_103 ⟨Nat.zero_le _, Nat.zero_le _⟩) hS_90 (fun r_94 Y_95 H_96 locs_97 hW_98 hS_99 h_93 => ?_)
                  obtain ⟨h_100, h_93⟩ := h_93
                  replace h_100 : r_94 = (oM_feeds w_91 w_83 f_10 20).1 := h_100
                  subst h_100
                  replace h_93 : Y_95 = setRow (setRow (setRow (setRow X 15 (X.1 15)) 16 w_91) 20 w_83) 16 ((oM_feeds w_91 w_83 f_10 20).2) := h_93
                  obtain ⟨w_101, ew_101⟩ : ∃ Z9, Z9 = (oM_feeds w_91 w_83 f_10 20).2 := ⟨_, rfl⟩
                  have qqw_101 : Y_95 = setRow (setRow (setRow (setRow X 15 (X.1 15)) 16 w_91) 20 w_83) 16 w_101 := by rw [h_93, ew_101]
                  have hW_102 : Wd G (setRow (setRow (setRow X 15 (X.1 15)) 16 w_101) 20 w_83) H_96 := Wd.cast ((qqw_101).trans (congrArg (fun Z9 => Z9) (sr_in (by decide) sr_out))) hW_98
                  exact g_iret C hr hlk hW_102 hS_99 dX8_charges_106 (by subst ew_101; subst ew_91; subst ew_83; subst ew_74; subst ew_65; subst ew_56; exact ⟨(by first | rfl | (simp only [oM_charges, clf (show f_10 < 2 ^ 31 by omega), clf (show f_22 < 2 ^ 31 by omega), b_9, b_11, b_31, b_48, b_51, b_60, b_69, b_78, if_true, if_false, chP]; first | done | rfl)), (by first | rfl | (simp only [oM_charges, clf (show f_10 < 2 ^ 31 by omega), clf (show f_22 < 2 ^ 31 by omega), b_9, b_11, b_31, b_48, b_51, b_60, b_69, b_78, if_true, if_false, chP]; first | done | rfl))⟩)
                · have fb_78 : 3 = f_22 := (nI_eq (a := 3) (b := f_22) (by omega) (by omega)).mp b_78
                  refine lv_iload_n hx hb dX8_charges_75 rfl (lv_at hl_77 4 rfl) ?_
                  refine lv_goto (tgt := 80) hx hb dX8_charges_76 (by decide) ?_
                  refine gm_partst C hW_75 hS_73 3 (by decide) (vlit (by decide)) dX8_charges_80 (fun H_103 locs_104 hW_105 hS_106 => ?_)
                  obtain ⟨w_107, ew_107⟩ : ∃ Z9, Z9 = upd w_74 (3) mass := ⟨_, rfl⟩
                  have hW_108 : Wd G (setRow (setRow (setRow X 15 (X.1 15)) 16 (X.1 16)) 20 w_107) H_103 := Wd.cast (by rw [ew_107]; exact st_out) hW_105
                  refine lv_iinc (v := 4) (lv' := [(4, .int 4), (0, .ref (ad G 723)), (1, .int (nI f_10)), (2, .int (nI f_22)), (3, .int mass)]) hx hb dX8_charges_81 hl_77 (k := 0) rfl (by decide) (by decide) rfl (fun ls_109 hl_110 => ?_)
                  refine lv_goto (tgt := 57) hx hb dX8_charges_84 (by decide) ?_
                  refine lv_iload hx hb dX8_charges_57 (lv_at hl_110 0 rfl) ?_
                  refine lv_iconst (v := 4) hx hb dX8_charges_59 (by decide) ?_
                  refine lv_icmp_ge (tgt := 87) hx hb dX8_charges_60 (by decide) (fun _ => ?_) (fun h9 => absurd h9 (by decide))
                  refine lv_aload_n hx hb dX8_charges_87 rfl (lv_at hl_110 1 rfl) ?_
                  refine gM_v C hW_108 (hwc hwX8) (mc qw_1481) dX8_charges_88 ?_
                  refine lv_iconst (v := 1) hx hb dX8_charges_91 (by decide) ?_
                  refine lv_iload_n hx hb dX8_charges_92 rfl (lv_at hl_110 3 rfl) ?_
                  refine lv_iadd hx hb dX8_charges_93 ?_
                  refine g_top (y := nI (1 + f_22)) (nI_add 1 f_22) ?_
                  refine lv_dup2_11 hx hb dX8_charges_94 rfl rfl ?_
                  refine gm_vld C hW_108 (1 + f_22) (nI_clamp (by omega)) (vp_in_nI (show 1 + f_22 < 128 by omega) (by decide)) dX8_charges_95 ?_
                  refine g_top (y := X.1 16 (1 + f_22)) (congrFun (rd_in (by decide) rd_out) _) ?_
                  refine lv_iload_n hx hb dX8_charges_96 rfl (lv_at hl_110 4 rfl) ?_
                  refine lv_iadd hx hb dX8_charges_97 ?_
                  refine gm_vst C hW_108 hS_106 (1 + f_22) (nI_clamp (by omega)) (vp_in_nI (show 1 + f_22 < 128 by omega) (by decide)) dX8_charges_98 (fun H_111 locs_112 hW_113 hS_114 => ?_)
                  obtain ⟨w_115, ew_115⟩ : ∃ Z9, Z9 = upd (X.1 16) (1 + f_22) ((X.1 16 (1 + f_22)) + mass) := ⟨_, rfl⟩
                  have hW_116 : Wd G (setRow (setRow (setRow X 15 (X.1 15)) 16 w_115) 20 w_107) H_111 := Wd.cast (by rw [ew_115]; exact (st_in (by decide) st_out)) hW_113
                  refine lv_aload_n hx hb dX8_charges_99 rfl (lv_at hl_110 1 rfl) ?_
                  refine lv_iload_n hx hb dX8_charges_100 rfl (lv_at hl_110 2 rfl) ?_
                  refine lv_bipush (v := 20) hx hb dX8_charges_101 (by decide) ?_
                  refine g_calli (va_runV (As := [.int (nI f_10), .int 20]) (rest := []) C.1 (cX8_feeds_ok l G (setRow (setRow (setRow X 15 (X.1 15)) 16 w_115) 20 w_107) f_10 20 (show f_10 < 3 by omega) (nz_feed (s := 0 + 0 + 0 + k0) (hm.1 f_10 (by omega)) (fun j hj => by rw [ew_115]; exact pk_un (by omega)) ⟨0, 0, 0, k0, (by subst ew_115; subst ew_107; subst ew_74; subst ew_65; subst ew_56; rfl), (by subst ew_115; subst ew_107; subst ew_74; subst ew_65; subst ew_56; rfl), (by subst ew_115; subst ew_107; subst ew_74; subst ew_65; subst ew_56; rfl), (by subst ew_115; subst ew_107; subst ew_74; subst ew_65; subst ew_56; exact hk03), rfl⟩ (by omega))) (cwV 2 C.1.2.2.2.2 (gV qw_1579 qw_1581 qw_33 qw_81 qw_1582) rfl rfl rfl (by decide +kernel) ⟨Nat.le_of_ble_eq_true rfl, Nat.le_of_ble_eq_true rfl⟩) (g_rModel C hW_116 hS_114 [.int (nI f_10), .int 20]) rfl rfl hl_110.1 rfl (lv_room (Nat.le_of_ble_eq_true rfl)) dX8_charges_103 ⟨Nat.zero_le _, Nat.zero_le _⟩) hS_114 (fun r_118 Y_119 H_120 locs_121 hW_122 hS_123 h_117 => ?_)
                  obtain ⟨h_124, h_117⟩ := h_117
                  replace h_124 : r_118 = (oM_feeds w_115 w_107 f_10 20).1 := h_124
                  subst h_124
                  replace h_117 : Y_119 = setRow (setRow (setRow (setRow X 15 (X.1 15)) 16 w_115) 20 w_107) 16 ((oM_feeds w_115 w_107 f_10 20).2) := h_117
                  obtain ⟨w_125, ew_125⟩ : ∃ Z9, Z9 = (oM_feeds w_115 w_107 f_10 20).2 := ⟨_, rfl⟩
                  have qqw_125 : Y_119 = setRow (setRow (setRow (setRow X 15 (X.1 15)) 16 w_115) 20 w_107) 16 w_125 := by rw [h_117, ew_125]
                  have hW_126 : Wd G (setRow (setRow (setRow X 15 (X.1 15)) 16 w_125) 20 w_107) H_120 := Wd.cast ((qqw_125).trans (congrArg (fun Z9 => Z9) (sr_in (by decide) sr_out))) hW_122
                  exact g_iret C hr hlk hW_126 hS_123 dX8_charges_106 (by subst ew_125; subst ew_115; subst ew_107; subst ew_74; subst ew_65; subst ew_56; exact ⟨(by first | rfl | (simp only [oM_charges, clf (show f_10 < 2 ^ 31 by omega), clf (show f_22 < 2 ^ 31 by omega), b_9, b_11, b_31, b_48, b_51, b_60, b_69, eq_true b_78, if_true, if_false, chP]; first | done | rfl)), (by first | rfl | (simp only [oM_charges, clf (show f_10 < 2 ^ 31 by omega), clf (show f_22 < 2 ^ 31 by omega), b_9, b_11, b_31, b_48, b_51, b_60, b_69, eq_true b_78, if_true, if_false, chP]; first | done | rfl))⟩)
              · have fb_69 : 2 = f_22 := (nI_eq (a := 2) (b := f_22) (by omega) (by omega)).mp b_69
                refine lv_iload_n hx hb dX8_charges_75 rfl (lv_at hl_68 4 rfl) ?_
                refine lv_goto (tgt := 80) hx hb dX8_charges_76 (by decide) ?_
                refine gm_partst C hW_66 hS_64 2 (by decide) (vlit (by decide)) dX8_charges_80 (fun H_127 locs_128 hW_129 hS_130 => ?_)
                obtain ⟨w_131, ew_131⟩ : ∃ Z9, Z9 = upd w_65 (2) mass := ⟨_, rfl⟩
                have hW_132 : Wd G (setRow (setRow (setRow X 15 (X.1 15)) 16 (X.1 16)) 20 w_131) H_127 := Wd.cast (by rw [ew_131]; exact st_out) hW_129
                refine lv_iinc (v := 3) (lv' := [(4, .int 3), (0, .ref (ad G 723)), (1, .int (nI f_10)), (2, .int (nI f_22)), (3, .int mass)]) hx hb dX8_charges_81 hl_68 (k := 0) rfl (by decide) (by decide) rfl (fun ls_133 hl_134 => ?_)
                refine lv_goto (tgt := 57) hx hb dX8_charges_84 (by decide) ?_
                refine lv_iload hx hb dX8_charges_57 (lv_at hl_134 0 rfl) ?_
                refine lv_iconst (v := 4) hx hb dX8_charges_59 (by decide) ?_
                refine lv_icmp_ge (tgt := 87) hx hb dX8_charges_60 (by decide) (fun h9 => absurd h9 (by decide)) (fun _ => ?_)
                refine lv_aload_n hx hb dX8_charges_63 rfl (lv_at hl_134 1 rfl) ?_
                refine gM_part C hW_132 (hwc hwX8) (mc qw_1485) dX8_charges_64 ?_
                refine lv_iload hx hb dX8_charges_67 (lv_at hl_134 0 rfl) ?_
                refine lv_iload hx hb dX8_charges_69 (lv_at hl_134 0 rfl) ?_
                refine lv_iload_n hx hb dX8_charges_71 rfl (lv_at hl_134 3 rfl) ?_
                refine lv_icmp_ne (tgt := 79) hx hb dX8_charges_72 (by decide) (fun b_135 => ?_) (fun b_135 => ?_)
                · have fb_135 : ¬ 3 = f_22 := fun q9 => b_135 ((nI_eq (a := 3) (b := f_22) (by omega) (by omega)).mpr q9)
                  refine lv_iconst (v := 0) hx hb dX8_charges_79 (by decide) ?_
                  refine gm_partst C hW_132 hS_130 3 (by decide) (vlit (by decide)) dX8_charges_80 (fun H_136 locs_137 hW_138 hS_139 => ?_)
                  obtain ⟨w_140, ew_140⟩ : ∃ Z9, Z9 = upd w_131 (3) 0 := ⟨_, rfl⟩
                  have hW_141 : Wd G (setRow (setRow (setRow X 15 (X.1 15)) 16 (X.1 16)) 20 w_140) H_136 := Wd.cast (by rw [ew_140]; exact st_out) hW_138
                  refine lv_iinc (v := 4) (lv' := [(4, .int 4), (0, .ref (ad G 723)), (1, .int (nI f_10)), (2, .int (nI f_22)), (3, .int mass)]) hx hb dX8_charges_81 hl_134 (k := 0) rfl (by decide) (by decide) rfl (fun ls_142 hl_143 => ?_)
                  refine lv_goto (tgt := 57) hx hb dX8_charges_84 (by decide) ?_
                  refine lv_iload hx hb dX8_charges_57 (lv_at hl_143 0 rfl) ?_
                  refine lv_iconst (v := 4) hx hb dX8_charges_59 (by decide) ?_
                  refine lv_icmp_ge (tgt := 87) hx hb dX8_charges_60 (by decide) (fun _ => ?_) (fun h9 => absurd h9 (by decide))
                  refine lv_aload_n hx hb dX8_charges_87 rfl (lv_at hl_143 1 rfl) ?_
                  refine gM_v C hW_141 (hwc hwX8) (mc qw_1481) dX8_charges_88 ?_
                  refine lv_iconst (v := 1) hx hb dX8_charges_91 (by decide) ?_
                  refine lv_iload_n hx hb dX8_charges_92 rfl (lv_at hl_143 3 rfl) ?_
                  refine lv_iadd hx hb dX8_charges_93 ?_
                  refine g_top (y := nI (1 + f_22)) (nI_add 1 f_22) ?_
                  refine lv_dup2_11 hx hb dX8_charges_94 rfl rfl ?_
                  refine gm_vld C hW_141 (1 + f_22) (nI_clamp (by omega)) (vp_in_nI (show 1 + f_22 < 128 by omega) (by decide)) dX8_charges_95 ?_
                  refine g_top (y := X.1 16 (1 + f_22)) (congrFun (rd_in (by decide) rd_out) _) ?_
                  refine lv_iload_n hx hb dX8_charges_96 rfl (lv_at hl_143 4 rfl) ?_
                  refine lv_iadd hx hb dX8_charges_97 ?_
                  refine gm_vst C hW_141 hS_139 (1 + f_22) (nI_clamp (by omega)) (vp_in_nI (show 1 + f_22 < 128 by omega) (by decide)) dX8_charges_98 (fun H_144 locs_145 hW_146 hS_147 => ?_)
                  obtain ⟨w_148, ew_148⟩ : ∃ Z9, Z9 = upd (X.1 16) (1 + f_22) ((X.1 16 (1 + f_22)) + mass) := ⟨_, rfl⟩
                  have hW_149 : Wd G (setRow (setRow (setRow X 15 (X.1 15)) 16 w_148) 20 w_140) H_144 := Wd.cast (by rw [ew_148]; exact (st_in (by decide) st_out)) hW_146
                  refine lv_aload_n hx hb dX8_charges_99 rfl (lv_at hl_143 1 rfl) ?_
                  refine lv_iload_n hx hb dX8_charges_100 rfl (lv_at hl_143 2 rfl) ?_
                  refine lv_bipush (v := 20) hx hb dX8_charges_101 (by decide) ?_
                  refine g_calli (va_runV (As := [.int (nI f_10), .int 20]) (rest := []) C.1 (cX8_feeds_ok l G (setRow (setRow (setRow X 15 (X.1 15)) 16 w_148) 20 w_140) f_10 20 (show f_10 < 3 by omega) (nz_feed (s := 0 + 0 + k0 + 0) (hm.1 f_10 (by omega)) (fun j hj => by rw [ew_148]; exact pk_un (by omega)) ⟨0, 0, k0, 0, (by subst ew_148; subst ew_140; subst ew_131; subst ew_65; subst ew_56; rfl), (by subst ew_148; subst ew_140; subst ew_131; subst ew_65; subst ew_56; rfl), (by subst ew_148; subst ew_140; subst ew_131; subst ew_65; subst ew_56; exact hk03), (by subst ew_148; subst ew_140; subst ew_131; subst ew_65; subst ew_56; rfl), rfl⟩ (by omega))) (cwV 2 C.1.2.2.2.2 (gV qw_1579 qw_1581 qw_33 qw_81 qw_1582) rfl rfl rfl (by decide +kernel) ⟨Nat.le_of_ble_eq_true rfl, Nat.le_of_ble_eq_true rfl⟩) (g_rModel C hW_149 hS_147 [.int (nI f_10), .int 20]) rfl rfl hl_143.1 rfl (lv_room (Nat.le_of_ble_eq_true rfl)) dX8_charges_103 ⟨Nat.zero_le _, Nat.zero_le _⟩) hS_147 (fun r_151 Y_152 H_153 locs_154 hW_155 hS_156 h_150 => ?_)
                  obtain ⟨h_157, h_150⟩ := h_150
                  replace h_157 : r_151 = (oM_feeds w_148 w_140 f_10 20).1 := h_157
                  subst h_157
                  replace h_150 : Y_152 = setRow (setRow (setRow (setRow X 15 (X.1 15)) 16 w_148) 20 w_140) 16 ((oM_feeds w_148 w_140 f_10 20).2) := h_150
                  obtain ⟨w_158, ew_158⟩ : ∃ Z9, Z9 = (oM_feeds w_148 w_140 f_10 20).2 := ⟨_, rfl⟩
                  have qqw_158 : Y_152 = setRow (setRow (setRow (setRow X 15 (X.1 15)) 16 w_148) 20 w_140) 16 w_158 := by rw [h_150, ew_158]
                  have hW_159 : Wd G (setRow (setRow (setRow X 15 (X.1 15)) 16 w_158) 20 w_140) H_153 := Wd.cast ((qqw_158).trans (congrArg (fun Z9 => Z9) (sr_in (by decide) sr_out))) hW_155
                  exact g_iret C hr hlk hW_159 hS_156 dX8_charges_106 (by subst ew_158; subst ew_148; subst ew_140; subst ew_131; subst ew_65; subst ew_56; exact ⟨(by first | rfl | (simp only [oM_charges, clf (show f_10 < 2 ^ 31 by omega), clf (show f_22 < 2 ^ 31 by omega), b_9, b_11, b_31, b_48, b_51, b_60, eq_true b_69, b_135, if_true, if_false, chP]; first | done | rfl)), (by first | rfl | (simp only [oM_charges, clf (show f_10 < 2 ^ 31 by omega), clf (show f_22 < 2 ^ 31 by omega), b_9, b_11, b_31, b_48, b_51, b_60, eq_true b_69, b_135, if_true, if_false, chP]; first | done | rfl))⟩)
                · have fb_135 : 3 = f_22 := (nI_eq (a := 3) (b := f_22) (by omega) (by omega)).mp b_135
                  refine lv_iload_n hx hb dX8_charges_75 rfl (lv_at hl_134 4 rfl) ?_
                  refine lv_goto (tgt := 80) hx hb dX8_charges_76 (by decide) ?_
                  refine gm_partst C hW_132 hS_130 3 (by decide) (vlit (by decide)) dX8_charges_80 (fun H_160 locs_161 hW_162 hS_163 => ?_)
                  obtain ⟨w_164, ew_164⟩ : ∃ Z9, Z9 = upd w_131 (3) mass := ⟨_, rfl⟩
                  have hW_165 : Wd G (setRow (setRow (setRow X 15 (X.1 15)) 16 (X.1 16)) 20 w_164) H_160 := Wd.cast (by rw [ew_164]; exact st_out) hW_162
                  refine lv_iinc (v := 4) (lv' := [(4, .int 4), (0, .ref (ad G 723)), (1, .int (nI f_10)), (2, .int (nI f_22)), (3, .int mass)]) hx hb dX8_charges_81 hl_134 (k := 0) rfl (by decide) (by decide) rfl (fun ls_166 hl_167 => ?_)
                  refine lv_goto (tgt := 57) hx hb dX8_charges_84 (by decide) ?_
                  refine lv_iload hx hb dX8_charges_57 (lv_at hl_167 0 rfl) ?_
                  refine lv_iconst (v := 4) hx hb dX8_charges_59 (by decide) ?_
                  refine lv_icmp_ge (tgt := 87) hx hb dX8_charges_60 (by decide) (fun _ => ?_) (fun h9 => absurd h9 (by decide))
                  refine lv_aload_n hx hb dX8_charges_87 rfl (lv_at hl_167 1 rfl) ?_
                  refine gM_v C hW_165 (hwc hwX8) (mc qw_1481) dX8_charges_88 ?_
                  refine lv_iconst (v := 1) hx hb dX8_charges_91 (by decide) ?_
                  refine lv_iload_n hx hb dX8_charges_92 rfl (lv_at hl_167 3 rfl) ?_
                  refine lv_iadd hx hb dX8_charges_93 ?_
                  refine g_top (y := nI (1 + f_22)) (nI_add 1 f_22) ?_
                  refine lv_dup2_11 hx hb dX8_charges_94 rfl rfl ?_
                  refine gm_vld C hW_165 (1 + f_22) (nI_clamp (by omega)) (vp_in_nI (show 1 + f_22 < 128 by omega) (by decide)) dX8_charges_95 ?_
                  refine g_top (y := X.1 16 (1 + f_22)) (congrFun (rd_in (by decide) rd_out) _) ?_
                  refine lv_iload_n hx hb dX8_charges_96 rfl (lv_at hl_167 4 rfl) ?_
                  refine lv_iadd hx hb dX8_charges_97 ?_
                  refine gm_vst C hW_165 hS_163 (1 + f_22) (nI_clamp (by omega)) (vp_in_nI (show 1 + f_22 < 128 by omega) (by decide)) dX8_charges_98 (fun H_168 locs_169 hW_170 hS_171 => ?_)
                  obtain ⟨w_172, ew_172⟩ : ∃ Z9, Z9 = upd (X.1 16) (1 + f_22) ((X.1 16 (1 + f_22)) + mass) := ⟨_, rfl⟩
                  have hW_173 : Wd G (setRow (setRow (setRow X 15 (X.1 15)) 16 w_172) 20 w_164) H_168 := Wd.cast (by rw [ew_172]; exact (st_in (by decide) st_out)) hW_170
                  refine lv_aload_n hx hb dX8_charges_99 rfl (lv_at hl_167 1 rfl) ?_
                  refine lv_iload_n hx hb dX8_charges_100 rfl (lv_at hl_167 2 rfl) ?_
                  refine lv_bipush (v := 20) hx hb dX8_charges_101 (by decide) ?_
                  refine g_calli (va_runV (As := [.int (nI f_10), .int 20]) (rest := []) C.1 (cX8_feeds_ok l G (setRow (setRow (setRow X 15 (X.1 15)) 16 w_172) 20 w_164) f_10 20 (show f_10 < 3 by omega) (nz_feed (s := 0 + 0 + k0 + k0) (hm.1 f_10 (by omega)) (fun j hj => by rw [ew_172]; exact pk_un (by omega)) ⟨0, 0, k0, k0, (by subst ew_172; subst ew_164; subst ew_131; subst ew_65; subst ew_56; rfl), (by subst ew_172; subst ew_164; subst ew_131; subst ew_65; subst ew_56; rfl), (by subst ew_172; subst ew_164; subst ew_131; subst ew_65; subst ew_56; exact hk03), (by subst ew_172; subst ew_164; subst ew_131; subst ew_65; subst ew_56; exact hk03), rfl⟩ (by omega))) (cwV 2 C.1.2.2.2.2 (gV qw_1579 qw_1581 qw_33 qw_81 qw_1582) rfl rfl rfl (by decide +kernel) ⟨Nat.le_of_ble_eq_true rfl, Nat.le_of_ble_eq_true rfl⟩) (g_rModel C hW_173 hS_171 [.int (nI f_10), .int 20]) rfl rfl hl_167.1 rfl (lv_room (Nat.le_of_ble_eq_true rfl)) dX8_charges_103 ⟨Nat.zero_le _, Nat.zero_le _⟩) hS_171 (fun r_175 Y_176 H_177 locs_178 hW_179 hS_180 h_174 => ?_)
                  obtain ⟨h_181, h_174⟩ := h_174
                  replace h_181 : r_175 = (oM_feeds w_172 w_164 f_10 20).1 := h_181
                  subst h_181
                  replace h_174 : Y_176 = setRow (setRow (setRow (setRow X 15 (X.1 15)) 16 w_172) 20 w_164) 16 ((oM_feeds w_172 w_164 f_10 20).2) := h_174
                  obtain ⟨w_182, ew_182⟩ : ∃ Z9, Z9 = (oM_feeds w_172 w_164 f_10 20).2 := ⟨_, rfl⟩
                  have qqw_182 : Y_176 = setRow (setRow (setRow (setRow X 15 (X.1 15)) 16 w_172) 20 w_164) 16 w_182 := by rw [h_174, ew_182]
                  have hW_183 : Wd G (setRow (setRow (setRow X 15 (X.1 15)) 16 w_182) 20 w_164) H_177 := Wd.cast ((qqw_182).trans (congrArg (fun Z9 => Z9) (sr_in (by decide) sr_out))) hW_179
                  exact g_iret C hr hlk hW_183 hS_180 dX8_charges_106 (by subst ew_182; subst ew_172; subst ew_164; subst ew_131; subst ew_65; subst ew_56; exact ⟨(by first | rfl | (simp only [oM_charges, clf (show f_10 < 2 ^ 31 by omega), clf (show f_22 < 2 ^ 31 by omega), b_9, b_11, b_31, b_48, b_51, b_60, eq_true b_69, eq_true b_135, if_true, if_false, chP]; first | done | rfl)), (by first | rfl | (simp only [oM_charges, clf (show f_10 < 2 ^ 31 by omega), clf (show f_22 < 2 ^ 31 by omega), b_9, b_11, b_31, b_48, b_51, b_60, eq_true b_69, eq_true b_135, if_true, if_false, chP]; first | done | rfl))⟩)
            · have fb_60 : 1 = f_22 := (nI_eq (a := 1) (b := f_22) (by omega) (by omega)).mp b_60
              refine lv_iload_n hx hb dX8_charges_75 rfl (lv_at hl_59 4 rfl) ?_
              refine lv_goto (tgt := 80) hx hb dX8_charges_76 (by decide) ?_
              refine gm_partst C hW_57 hS_55 1 (by decide) (vlit (by decide)) dX8_charges_80 (fun H_184 locs_185 hW_186 hS_187 => ?_)
              obtain ⟨w_188, ew_188⟩ : ∃ Z9, Z9 = upd w_56 (1) mass := ⟨_, rfl⟩
              have hW_189 : Wd G (setRow (setRow (setRow X 15 (X.1 15)) 16 (X.1 16)) 20 w_188) H_184 := Wd.cast (by rw [ew_188]; exact st_out) hW_186
              refine lv_iinc (v := 2) (lv' := [(4, .int 2), (0, .ref (ad G 723)), (1, .int (nI f_10)), (2, .int (nI f_22)), (3, .int mass)]) hx hb dX8_charges_81 hl_59 (k := 0) rfl (by decide) (by decide) rfl (fun ls_190 hl_191 => ?_)
              refine lv_goto (tgt := 57) hx hb dX8_charges_84 (by decide) ?_
              refine lv_iload hx hb dX8_charges_57 (lv_at hl_191 0 rfl) ?_
              refine lv_iconst (v := 4) hx hb dX8_charges_59 (by decide) ?_
              refine lv_icmp_ge (tgt := 87) hx hb dX8_charges_60 (by decide) (fun h9 => absurd h9 (by decide)) (fun _ => ?_)
              refine lv_aload_n hx hb dX8_charges_63 rfl (lv_at hl_191 1 rfl) ?_
              refine gM_part C hW_189 (hwc hwX8) (mc qw_1485) dX8_charges_64 ?_
              refine lv_iload hx hb dX8_charges_67 (lv_at hl_191 0 rfl) ?_
              refine lv_iload hx hb dX8_charges_69 (lv_at hl_191 0 rfl) ?_
              refine lv_iload_n hx hb dX8_charges_71 rfl (lv_at hl_191 3 rfl) ?_
              refine lv_icmp_ne (tgt := 79) hx hb dX8_charges_72 (by decide) (fun b_192 => ?_) (fun b_192 => ?_)
              · have fb_192 : ¬ 2 = f_22 := fun q9 => b_192 ((nI_eq (a := 2) (b := f_22) (by omega) (by omega)).mpr q9)
                refine lv_iconst (v := 0) hx hb dX8_charges_79 (by decide) ?_
                refine gm_partst C hW_189 hS_187 2 (by decide) (vlit (by decide)) dX8_charges_80 (fun H_193 locs_194 hW_195 hS_196 => ?_)
                obtain ⟨w_197, ew_197⟩ : ∃ Z9, Z9 = upd w_188 (2) 0 := ⟨_, rfl⟩
                have hW_198 : Wd G (setRow (setRow (setRow X 15 (X.1 15)) 16 (X.1 16)) 20 w_197) H_193 := Wd.cast (by rw [ew_197]; exact st_out) hW_195
                refine lv_iinc (v := 3) (lv' := [(4, .int 3), (0, .ref (ad G 723)), (1, .int (nI f_10)), (2, .int (nI f_22)), (3, .int mass)]) hx hb dX8_charges_81 hl_191 (k := 0) rfl (by decide) (by decide) rfl (fun ls_199 hl_200 => ?_)
                refine lv_goto (tgt := 57) hx hb dX8_charges_84 (by decide) ?_
                refine lv_iload hx hb dX8_charges_57 (lv_at hl_200 0 rfl) ?_
                refine lv_iconst (v := 4) hx hb dX8_charges_59 (by decide) ?_
                refine lv_icmp_ge (tgt := 87) hx hb dX8_charges_60 (by decide) (fun h9 => absurd h9 (by decide)) (fun _ => ?_)
                refine lv_aload_n hx hb dX8_charges_63 rfl (lv_at hl_200 1 rfl) ?_
                refine gM_part C hW_198 (hwc hwX8) (mc qw_1485) dX8_charges_64 ?_
                refine lv_iload hx hb dX8_charges_67 (lv_at hl_200 0 rfl) ?_
                refine lv_iload hx hb dX8_charges_69 (lv_at hl_200 0 rfl) ?_
                refine lv_iload_n hx hb dX8_charges_71 rfl (lv_at hl_200 3 rfl) ?_
                refine lv_icmp_ne (tgt := 79) hx hb dX8_charges_72 (by decide) (fun b_201 => ?_) (fun b_201 => ?_)
                · have fb_201 : ¬ 3 = f_22 := fun q9 => b_201 ((nI_eq (a := 3) (b := f_22) (by omega) (by omega)).mpr q9)
                  refine lv_iconst (v := 0) hx hb dX8_charges_79 (by decide) ?_
                  refine gm_partst C hW_198 hS_196 3 (by decide) (vlit (by decide)) dX8_charges_80 (fun H_202 locs_203 hW_204 hS_205 => ?_)
                  obtain ⟨w_206, ew_206⟩ : ∃ Z9, Z9 = upd w_197 (3) 0 := ⟨_, rfl⟩
                  have hW_207 : Wd G (setRow (setRow (setRow X 15 (X.1 15)) 16 (X.1 16)) 20 w_206) H_202 := Wd.cast (by rw [ew_206]; exact st_out) hW_204
                  refine lv_iinc (v := 4) (lv' := [(4, .int 4), (0, .ref (ad G 723)), (1, .int (nI f_10)), (2, .int (nI f_22)), (3, .int mass)]) hx hb dX8_charges_81 hl_200 (k := 0) rfl (by decide) (by decide) rfl (fun ls_208 hl_209 => ?_)
                  refine lv_goto (tgt := 57) hx hb dX8_charges_84 (by decide) ?_
                  refine lv_iload hx hb dX8_charges_57 (lv_at hl_209 0 rfl) ?_
                  refine lv_iconst (v := 4) hx hb dX8_charges_59 (by decide) ?_
                  refine lv_icmp_ge (tgt := 87) hx hb dX8_charges_60 (by decide) (fun _ => ?_) (fun h9 => absurd h9 (by decide))
                  refine lv_aload_n hx hb dX8_charges_87 rfl (lv_at hl_209 1 rfl) ?_
                  refine gM_v C hW_207 (hwc hwX8) (mc qw_1481) dX8_charges_88 ?_
                  refine lv_iconst (v := 1) hx hb dX8_charges_91 (by decide) ?_
                  refine lv_iload_n hx hb dX8_charges_92 rfl (lv_at hl_209 3 rfl) ?_
                  refine lv_iadd hx hb dX8_charges_93 ?_
                  refine g_top (y := nI (1 + f_22)) (nI_add 1 f_22) ?_
                  refine lv_dup2_11 hx hb dX8_charges_94 rfl rfl ?_
                  refine gm_vld C hW_207 (1 + f_22) (nI_clamp (by omega)) (vp_in_nI (show 1 + f_22 < 128 by omega) (by decide)) dX8_charges_95 ?_
                  refine g_top (y := X.1 16 (1 + f_22)) (congrFun (rd_in (by decide) rd_out) _) ?_
                  refine lv_iload_n hx hb dX8_charges_96 rfl (lv_at hl_209 4 rfl) ?_
                  refine lv_iadd hx hb dX8_charges_97 ?_
                  refine gm_vst C hW_207 hS_205 (1 + f_22) (nI_clamp (by omega)) (vp_in_nI (show 1 + f_22 < 128 by omega) (by decide)) dX8_charges_98 (fun H_210 locs_211 hW_212 hS_213 => ?_)
                  obtain ⟨w_214, ew_214⟩ : ∃ Z9, Z9 = upd (X.1 16) (1 + f_22) ((X.1 16 (1 + f_22)) + mass) := ⟨_, rfl⟩
                  have hW_215 : Wd G (setRow (setRow (setRow X 15 (X.1 15)) 16 w_214) 20 w_206) H_210 := Wd.cast (by rw [ew_214]; exact (st_in (by decide) st_out)) hW_212
                  refine lv_aload_n hx hb dX8_charges_99 rfl (lv_at hl_209 1 rfl) ?_
                  refine lv_iload_n hx hb dX8_charges_100 rfl (lv_at hl_209 2 rfl) ?_
                  refine lv_bipush (v := 20) hx hb dX8_charges_101 (by decide) ?_
                  refine g_calli (va_runV (As := [.int (nI f_10), .int 20]) (rest := []) C.1 (cX8_feeds_ok l G (setRow (setRow (setRow X 15 (X.1 15)) 16 w_214) 20 w_206) f_10 20 (show f_10 < 3 by omega) (nz_feed (s := 0 + k0 + 0 + 0) (hm.1 f_10 (by omega)) (fun j hj => by rw [ew_214]; exact pk_un (by omega)) ⟨0, k0, 0, 0, (by subst ew_214; subst ew_206; subst ew_197; subst ew_188; subst ew_56; rfl), (by subst ew_214; subst ew_206; subst ew_197; subst ew_188; subst ew_56; exact hk03), (by subst ew_214; subst ew_206; subst ew_197; subst ew_188; subst ew_56; rfl), (by subst ew_214; subst ew_206; subst ew_197; subst ew_188; subst ew_56; rfl), rfl⟩ (by omega))) (cwV 2 C.1.2.2.2.2 (gV qw_1579 qw_1581 qw_33 qw_81 qw_1582) rfl rfl rfl (by decide +kernel) ⟨Nat.le_of_ble_eq_true rfl, Nat.le_of_ble_eq_true rfl⟩) (g_rModel C hW_215 hS_213 [.int (nI f_10), .int 20]) rfl rfl hl_209.1 rfl (lv_room (Nat.le_of_ble_eq_true rfl)) dX8_charges_103 ⟨Nat.zero_le _, Nat.zero_le _⟩) hS_213 (fun r_217 Y_218 H_219 locs_220 hW_221 hS_222 h_216 => ?_)
                  obtain ⟨h_223, h_216⟩ := h_216
                  replace h_223 : r_217 = (oM_feeds w_214 w_206 f_10 20).1 := h_223
                  subst h_223
                  replace h_216 : Y_218 = setRow (setRow (setRow (setRow X 15 (X.1 15)) 16 w_214) 20 w_206) 16 ((oM_feeds w_214 w_206 f_10 20).2) := h_216
                  obtain ⟨w_224, ew_224⟩ : ∃ Z9, Z9 = (oM_feeds w_214 w_206 f_10 20).2 := ⟨_, rfl⟩
                  have qqw_224 : Y_218 = setRow (setRow (setRow (setRow X 15 (X.1 15)) 16 w_214) 20 w_206) 16 w_224 := by rw [h_216, ew_224]
                  have hW_225 : Wd G (setRow (setRow (setRow X 15 (X.1 15)) 16 w_224) 20 w_206) H_219 := Wd.cast ((qqw_224).trans (congrArg (fun Z9 => Z9) (sr_in (by decide) sr_out))) hW_221
                  exact g_iret C hr hlk hW_225 hS_222 dX8_charges_106 (by subst ew_224; subst ew_214; subst ew_206; subst ew_197; subst ew_188; subst ew_56; exact ⟨(by first | rfl | (simp only [oM_charges, clf (show f_10 < 2 ^ 31 by omega), clf (show f_22 < 2 ^ 31 by omega), b_9, b_11, b_31, b_48, b_51, eq_true b_60, b_192, b_201, if_true, if_false, chP]; first | done | rfl)), (by first | rfl | (simp only [oM_charges, clf (show f_10 < 2 ^ 31 by omega), clf (show f_22 < 2 ^ 31 by omega), b_9, b_11, b_31, b_48, b_51, eq_true b_60, b_192, b_201, if_true, if_false, chP]; first | done | rfl))⟩)
                · have fb_201 : 3 = f_22 := (nI_eq (a := 3) (b := f_22) (by omega) (by omega)).mp b_201
                  refine lv_iload_n hx hb dX8_charges_75 rfl (lv_at hl_200 4 rfl) ?_
                  refine lv_goto (tgt := 80) hx hb dX8_charges_76 (by decide) ?_
                  refine gm_partst C hW_198 hS_196 3 (by decide) (vlit (by decide)) dX8_charges_80 (fun H_226 locs_227 hW_228 hS_229 => ?_)
                  obtain ⟨w_230, ew_230⟩ : ∃ Z9, Z9 = upd w_197 (3) mass := ⟨_, rfl⟩
                  have hW_231 : Wd G (setRow (setRow (setRow X 15 (X.1 15)) 16 (X.1 16)) 20 w_230) H_226 := Wd.cast (by rw [ew_230]; exact st_out) hW_228
                  refine lv_iinc (v := 4) (lv' := [(4, .int 4), (0, .ref (ad G 723)), (1, .int (nI f_10)), (2, .int (nI f_22)), (3, .int mass)]) hx hb dX8_charges_81 hl_200 (k := 0) rfl (by decide) (by decide) rfl (fun ls_232 hl_233 => ?_)
                  refine lv_goto (tgt := 57) hx hb dX8_charges_84 (by decide) ?_
                  refine lv_iload hx hb dX8_charges_57 (lv_at hl_233 0 rfl) ?_
                  refine lv_iconst (v := 4) hx hb dX8_charges_59 (by decide) ?_
                  refine lv_icmp_ge (tgt := 87) hx hb dX8_charges_60 (by decide) (fun _ => ?_) (fun h9 => absurd h9 (by decide))
                  refine lv_aload_n hx hb dX8_charges_87 rfl (lv_at hl_233 1 rfl) ?_
                  refine gM_v C hW_231 (hwc hwX8) (mc qw_1481) dX8_charges_88 ?_
                  refine lv_iconst (v := 1) hx hb dX8_charges_91 (by decide) ?_
                  refine lv_iload_n hx hb dX8_charges_92 rfl (lv_at hl_233 3 rfl) ?_
                  refine lv_iadd hx hb dX8_charges_93 ?_
                  refine g_top (y := nI (1 + f_22)) (nI_add 1 f_22) ?_
                  refine lv_dup2_11 hx hb dX8_charges_94 rfl rfl ?_
                  refine gm_vld C hW_231 (1 + f_22) (nI_clamp (by omega)) (vp_in_nI (show 1 + f_22 < 128 by omega) (by decide)) dX8_charges_95 ?_
                  refine g_top (y := X.1 16 (1 + f_22)) (congrFun (rd_in (by decide) rd_out) _) ?_
                  refine lv_iload_n hx hb dX8_charges_96 rfl (lv_at hl_233 4 rfl) ?_
                  refine lv_iadd hx hb dX8_charges_97 ?_
                  refine gm_vst C hW_231 hS_229 (1 + f_22) (nI_clamp (by omega)) (vp_in_nI (show 1 + f_22 < 128 by omega) (by decide)) dX8_charges_98 (fun H_234 locs_235 hW_236 hS_237 => ?_)
                  obtain ⟨w_238, ew_238⟩ : ∃ Z9, Z9 = upd (X.1 16) (1 + f_22) ((X.1 16 (1 + f_22)) + mass) := ⟨_, rfl⟩
                  have hW_239 : Wd G (setRow (setRow (setRow X 15 (X.1 15)) 16 w_238) 20 w_230) H_234 := Wd.cast (by rw [ew_238]; exact (st_in (by decide) st_out)) hW_236
                  refine lv_aload_n hx hb dX8_charges_99 rfl (lv_at hl_233 1 rfl) ?_
                  refine lv_iload_n hx hb dX8_charges_100 rfl (lv_at hl_233 2 rfl) ?_
                  refine lv_bipush (v := 20) hx hb dX8_charges_101 (by decide) ?_
                  refine g_calli (va_runV (As := [.int (nI f_10), .int 20]) (rest := []) C.1 (cX8_feeds_ok l G (setRow (setRow (setRow X 15 (X.1 15)) 16 w_238) 20 w_230) f_10 20 (show f_10 < 3 by omega) (nz_feed (s := 0 + k0 + 0 + k0) (hm.1 f_10 (by omega)) (fun j hj => by rw [ew_238]; exact pk_un (by omega)) ⟨0, k0, 0, k0, (by subst ew_238; subst ew_230; subst ew_197; subst ew_188; subst ew_56; rfl), (by subst ew_238; subst ew_230; subst ew_197; subst ew_188; subst ew_56; exact hk03), (by subst ew_238; subst ew_230; subst ew_197; subst ew_188; subst ew_56; rfl), (by subst ew_238; subst ew_230; subst ew_197; subst ew_188; subst ew_56; exact hk03), rfl⟩ (by omega))) (cwV 2 C.1.2.2.2.2 (gV qw_1579 qw_1581 qw_33 qw_81 qw_1582) rfl rfl rfl (by decide +kernel) ⟨Nat.le_of_ble_eq_true rfl, Nat.le_of_ble_eq_true rfl⟩) (g_rModel C hW_239 hS_237 [.int (nI f_10), .int 20]) rfl rfl hl_233.1 rfl (lv_room (Nat.le_of_ble_eq_true rfl)) dX8_charges_103 ⟨Nat.zero_le _, Nat.zero_le _⟩) hS_237 (fun r_241 Y_242 H_243 locs_244 hW_245 hS_246 h_240 => ?_)
                  obtain ⟨h_247, h_240⟩ := h_240
                  replace h_247 : r_241 = (oM_feeds w_238 w_230 f_10 20).1 := h_247
                  subst h_247
                  replace h_240 : Y_242 = setRow (setRow (setRow (setRow X 15 (X.1 15)) 16 w_238) 20 w_230) 16 ((oM_feeds w_238 w_230 f_10 20).2) := h_240
                  obtain ⟨w_248, ew_248⟩ : ∃ Z9, Z9 = (oM_feeds w_238 w_230 f_10 20).2 := ⟨_, rfl⟩
                  have qqw_248 : Y_242 = setRow (setRow (setRow (setRow X 15 (X.1 15)) 16 w_238) 20 w_230) 16 w_248 := by rw [h_240, ew_248]
                  have hW_249 : Wd G (setRow (setRow (setRow X 15 (X.1 15)) 16 w_248) 20 w_230) H_243 := Wd.cast ((qqw_248).trans (congrArg (fun Z9 => Z9) (sr_in (by decide) sr_out))) hW_245
                  exact g_iret C hr hlk hW_249 hS_246 dX8_charges_106 (by subst ew_248; subst ew_238; subst ew_230; subst ew_197; subst ew_188; subst ew_56; exact ⟨(by first | rfl | (simp only [oM_charges, clf (show f_10 < 2 ^ 31 by omega), clf (show f_22 < 2 ^ 31 by omega), b_9, b_11, b_31, b_48, b_51, eq_true b_60, b_192, eq_true b_201, if_true, if_false, chP]; first | done | rfl)), (by first | rfl | (simp only [oM_charges, clf (show f_10 < 2 ^ 31 by omega), clf (show f_22 < 2 ^ 31 by omega), b_9, b_11, b_31, b_48, b_51, eq_true b_60, b_192, eq_true b_201, if_true, if_false, chP]; first | done | rfl))⟩)
              · have fb_192 : 2 = f_22 := (nI_eq (a := 2) (b := f_22) (by omega) (by omega)).mp b_192
                refine lv_iload_n hx hb dX8_charges_75 rfl (lv_at hl_191 4 rfl) ?_
                refine lv_goto (tgt := 80) hx hb dX8_charges_76 (by decide) ?_
                refine gm_partst C hW_189 hS_187 2 (by decide) (vlit (by decide)) dX8_charges_80 (fun H_250 locs_251 hW_252 hS_253 => ?_)
                obtain ⟨w_254, ew_254⟩ : ∃ Z9, Z9 = upd w_188 (2) mass := ⟨_, rfl⟩
                have hW_255 : Wd G (setRow (setRow (setRow X 15 (X.1 15)) 16 (X.1 16)) 20 w_254) H_250 := Wd.cast (by rw [ew_254]; exact st_out) hW_252
                refine lv_iinc (v := 3) (lv' := [(4, .int 3), (0, .ref (ad G 723)), (1, .int (nI f_10)), (2, .int (nI f_22)), (3, .int mass)]) hx hb dX8_charges_81 hl_191 (k := 0) rfl (by decide) (by decide) rfl (fun ls_256 hl_257 => ?_)
                refine lv_goto (tgt := 57) hx hb dX8_charges_84 (by decide) ?_
                refine lv_iload hx hb dX8_charges_57 (lv_at hl_257 0 rfl) ?_
                refine lv_iconst (v := 4) hx hb dX8_charges_59 (by decide) ?_
                refine lv_icmp_ge (tgt := 87) hx hb dX8_charges_60 (by decide) (fun h9 => absurd h9 (by decide)) (fun _ => ?_)
                refine lv_aload_n hx hb dX8_charges_63 rfl (lv_at hl_257 1 rfl) ?_
                refine gM_part C hW_255 (hwc hwX8) (mc qw_1485) dX8_charges_64 ?_
                refine lv_iload hx hb dX8_charges_67 (lv_at hl_257 0 rfl) ?_
                refine lv_iload hx hb dX8_charges_69 (lv_at hl_257 0 rfl) ?_
                refine lv_iload_n hx hb dX8_charges_71 rfl (lv_at hl_257 3 rfl) ?_
                refine lv_icmp_ne (tgt := 79) hx hb dX8_charges_72 (by decide) (fun b_258 => ?_) (fun b_258 => ?_)
                · have fb_258 : ¬ 3 = f_22 := fun q9 => b_258 ((nI_eq (a := 3) (b := f_22) (by omega) (by omega)).mpr q9)
                  refine lv_iconst (v := 0) hx hb dX8_charges_79 (by decide) ?_
                  refine gm_partst C hW_255 hS_253 3 (by decide) (vlit (by decide)) dX8_charges_80 (fun H_259 locs_260 hW_261 hS_262 => ?_)
                  obtain ⟨w_263, ew_263⟩ : ∃ Z9, Z9 = upd w_254 (3) 0 := ⟨_, rfl⟩
                  have hW_264 : Wd G (setRow (setRow (setRow X 15 (X.1 15)) 16 (X.1 16)) 20 w_263) H_259 := Wd.cast (by rw [ew_263]; exact st_out) hW_261
                  refine lv_iinc (v := 4) (lv' := [(4, .int 4), (0, .ref (ad G 723)), (1, .int (nI f_10)), (2, .int (nI f_22)), (3, .int mass)]) hx hb dX8_charges_81 hl_257 (k := 0) rfl (by decide) (by decide) rfl (fun ls_265 hl_266 => ?_)
                  refine lv_goto (tgt := 57) hx hb dX8_charges_84 (by decide) ?_
                  refine lv_iload hx hb dX8_charges_57 (lv_at hl_266 0 rfl) ?_
                  refine lv_iconst (v := 4) hx hb dX8_charges_59 (by decide) ?_
                  refine lv_icmp_ge (tgt := 87) hx hb dX8_charges_60 (by decide) (fun _ => ?_) (fun h9 => absurd h9 (by decide))
                  refine lv_aload_n hx hb dX8_charges_87 rfl (lv_at hl_266 1 rfl) ?_
                  refine gM_v C hW_264 (hwc hwX8) (mc qw_1481) dX8_charges_88 ?_
                  refine lv_iconst (v := 1) hx hb dX8_charges_91 (by decide) ?_
                  refine lv_iload_n hx hb dX8_charges_92 rfl (lv_at hl_266 3 rfl) ?_
                  refine lv_iadd hx hb dX8_charges_93 ?_
                  refine g_top (y := nI (1 + f_22)) (nI_add 1 f_22) ?_
                  refine lv_dup2_11 hx hb dX8_charges_94 rfl rfl ?_
                  refine gm_vld C hW_264 (1 + f_22) (nI_clamp (by omega)) (vp_in_nI (show 1 + f_22 < 128 by omega) (by decide)) dX8_charges_95 ?_
                  refine g_top (y := X.1 16 (1 + f_22)) (congrFun (rd_in (by decide) rd_out) _) ?_
                  refine lv_iload_n hx hb dX8_charges_96 rfl (lv_at hl_266 4 rfl) ?_
                  refine lv_iadd hx hb dX8_charges_97 ?_
                  refine gm_vst C hW_264 hS_262 (1 + f_22) (nI_clamp (by omega)) (vp_in_nI (show 1 + f_22 < 128 by omega) (by decide)) dX8_charges_98 (fun H_267 locs_268 hW_269 hS_270 => ?_)
                  obtain ⟨w_271, ew_271⟩ : ∃ Z9, Z9 = upd (X.1 16) (1 + f_22) ((X.1 16 (1 + f_22)) + mass) := ⟨_, rfl⟩
                  have hW_272 : Wd G (setRow (setRow (setRow X 15 (X.1 15)) 16 w_271) 20 w_263) H_267 := Wd.cast (by rw [ew_271]; exact (st_in (by decide) st_out)) hW_269
                  refine lv_aload_n hx hb dX8_charges_99 rfl (lv_at hl_266 1 rfl) ?_
                  refine lv_iload_n hx hb dX8_charges_100 rfl (lv_at hl_266 2 rfl) ?_
                  refine lv_bipush (v := 20) hx hb dX8_charges_101 (by decide) ?_
                  refine g_calli (va_runV (As := [.int (nI f_10), .int 20]) (rest := []) C.1 (cX8_feeds_ok l G (setRow (setRow (setRow X 15 (X.1 15)) 16 w_271) 20 w_263) f_10 20 (show f_10 < 3 by omega) (nz_feed (s := 0 + k0 + k0 + 0) (hm.1 f_10 (by omega)) (fun j hj => by rw [ew_271]; exact pk_un (by omega)) ⟨0, k0, k0, 0, (by subst ew_271; subst ew_263; subst ew_254; subst ew_188; subst ew_56; rfl), (by subst ew_271; subst ew_263; subst ew_254; subst ew_188; subst ew_56; exact hk03), (by subst ew_271; subst ew_263; subst ew_254; subst ew_188; subst ew_56; exact hk03), (by subst ew_271; subst ew_263; subst ew_254; subst ew_188; subst ew_56; rfl), rfl⟩ (by omega))) (cwV 2 C.1.2.2.2.2 (gV qw_1579 qw_1581 qw_33 qw_81 qw_1582) rfl rfl rfl (by decide +kernel) ⟨Nat.le_of_ble_eq_true rfl, Nat.le_of_ble_eq_true rfl⟩) (g_rModel C hW_272 hS_270 [.int (nI f_10), .int 20]) rfl rfl hl_266.1 rfl (lv_room (Nat.le_of_ble_eq_true rfl)) dX8_charges_103 ⟨Nat.zero_le _, Nat.zero_le _⟩) hS_270 (fun r_274 Y_275 H_276 locs_277 hW_278 hS_279 h_273 => ?_)
                  obtain ⟨h_280, h_273⟩ := h_273
                  replace h_280 : r_274 = (oM_feeds w_271 w_263 f_10 20).1 := h_280
                  subst h_280
                  replace h_273 : Y_275 = setRow (setRow (setRow (setRow X 15 (X.1 15)) 16 w_271) 20 w_263) 16 ((oM_feeds w_271 w_263 f_10 20).2) := h_273
                  obtain ⟨w_281, ew_281⟩ : ∃ Z9, Z9 = (oM_feeds w_271 w_263 f_10 20).2 := ⟨_, rfl⟩
                  have qqw_281 : Y_275 = setRow (setRow (setRow (setRow X 15 (X.1 15)) 16 w_271) 20 w_263) 16 w_281 := by rw [h_273, ew_281]
                  have hW_282 : Wd G (setRow (setRow (setRow X 15 (X.1 15)) 16 w_281) 20 w_263) H_276 := Wd.cast ((qqw_281).trans (congrArg (fun Z9 => Z9) (sr_in (by decide) sr_out))) hW_278
                  exact g_iret C hr hlk hW_282 hS_279 dX8_charges_106 (by subst ew_281; subst ew_271; subst ew_263; subst ew_254; subst ew_188; subst ew_56; exact ⟨(by first | rfl | (simp only [oM_charges, clf (show f_10 < 2 ^ 31 by omega), clf (show f_22 < 2 ^ 31 by omega), b_9, b_11, b_31, b_48, b_51, eq_true b_60, eq_true b_192, b_258, if_true, if_false, chP]; first | done | rfl)), (by first | rfl | (simp only [oM_charges, clf (show f_10 < 2 ^ 31 by omega), clf (show f_22 < 2 ^ 31 by omega), b_9, b_11, b_31, b_48, b_51, eq_true b_60, eq_true b_192, b_258, if_true, if_false, chP]; first | done | rfl))⟩)
                · have fb_258 : 3 = f_22 := (nI_eq (a := 3) (b := f_22) (by omega) (by omega)).mp b_258
                  refine lv_iload_n hx hb dX8_charges_75 rfl (lv_at hl_257 4 rfl) ?_
                  refine lv_goto (tgt := 80) hx hb dX8_charges_76 (by decide) ?_
                  refine gm_partst C hW_255 hS_253 3 (by decide) (vlit (by decide)) dX8_charges_80 (fun H_283 locs_284 hW_285 hS_286 => ?_)
                  obtain ⟨w_287, ew_287⟩ : ∃ Z9, Z9 = upd w_254 (3) mass := ⟨_, rfl⟩
                  have hW_288 : Wd G (setRow (setRow (setRow X 15 (X.1 15)) 16 (X.1 16)) 20 w_287) H_283 := Wd.cast (by rw [ew_287]; exact st_out) hW_285
                  refine lv_iinc (v := 4) (lv' := [(4, .int 4), (0, .ref (ad G 723)), (1, .int (nI f_10)), (2, .int (nI f_22)), (3, .int mass)]) hx hb dX8_charges_81 hl_257 (k := 0) rfl (by decide) (by decide) rfl (fun ls_289 hl_290 => ?_)
                  refine lv_goto (tgt := 57) hx hb dX8_charges_84 (by decide) ?_
                  refine lv_iload hx hb dX8_charges_57 (lv_at hl_290 0 rfl) ?_
                  refine lv_iconst (v := 4) hx hb dX8_charges_59 (by decide) ?_
                  refine lv_icmp_ge (tgt := 87) hx hb dX8_charges_60 (by decide) (fun _ => ?_) (fun h9 => absurd h9 (by decide))
                  refine lv_aload_n hx hb dX8_charges_87 rfl (lv_at hl_290 1 rfl) ?_
                  refine gM_v C hW_288 (hwc hwX8) (mc qw_1481) dX8_charges_88 ?_
                  refine lv_iconst (v := 1) hx hb dX8_charges_91 (by decide) ?_
                  refine lv_iload_n hx hb dX8_charges_92 rfl (lv_at hl_290 3 rfl) ?_
                  refine lv_iadd hx hb dX8_charges_93 ?_
                  refine g_top (y := nI (1 + f_22)) (nI_add 1 f_22) ?_
                  refine lv_dup2_11 hx hb dX8_charges_94 rfl rfl ?_
                  refine gm_vld C hW_288 (1 + f_22) (nI_clamp (by omega)) (vp_in_nI (show 1 + f_22 < 128 by omega) (by decide)) dX8_charges_95 ?_
                  refine g_top (y := X.1 16 (1 + f_22)) (congrFun (rd_in (by decide) rd_out) _) ?_
                  refine lv_iload_n hx hb dX8_charges_96 rfl (lv_at hl_290 4 rfl) ?_
                  refine lv_iadd hx hb dX8_charges_97 ?_
                  refine gm_vst C hW_288 hS_286 (1 + f_22) (nI_clamp (by omega)) (vp_in_nI (show 1 + f_22 < 128 by omega) (by decide)) dX8_charges_98 (fun H_291 locs_292 hW_293 hS_294 => ?_)
                  obtain ⟨w_295, ew_295⟩ : ∃ Z9, Z9 = upd (X.1 16) (1 + f_22) ((X.1 16 (1 + f_22)) + mass) := ⟨_, rfl⟩
                  have hW_296 : Wd G (setRow (setRow (setRow X 15 (X.1 15)) 16 w_295) 20 w_287) H_291 := Wd.cast (by rw [ew_295]; exact (st_in (by decide) st_out)) hW_293
                  refine lv_aload_n hx hb dX8_charges_99 rfl (lv_at hl_290 1 rfl) ?_
                  refine lv_iload_n hx hb dX8_charges_100 rfl (lv_at hl_290 2 rfl) ?_
                  refine lv_bipush (v := 20) hx hb dX8_charges_101 (by decide) ?_
                  refine g_calli (va_runV (As := [.int (nI f_10), .int 20]) (rest := []) C.1 (cX8_feeds_ok l G (setRow (setRow (setRow X 15 (X.1 15)) 16 w_295) 20 w_287) f_10 20 (show f_10 < 3 by omega) (nz_feed (s := 0 + k0 + k0 + k0) (hm.1 f_10 (by omega)) (fun j hj => by rw [ew_295]; exact pk_un (by omega)) ⟨0, k0, k0, k0, (by subst ew_295; subst ew_287; subst ew_254; subst ew_188; subst ew_56; rfl), (by subst ew_295; subst ew_287; subst ew_254; subst ew_188; subst ew_56; exact hk03), (by subst ew_295; subst ew_287; subst ew_254; subst ew_188; subst ew_56; exact hk03), (by subst ew_295; subst ew_287; subst ew_254; subst ew_188; subst ew_56; exact hk03), rfl⟩ (by omega))) (cwV 2 C.1.2.2.2.2 (gV qw_1579 qw_1581 qw_33 qw_81 qw_1582) rfl rfl rfl (by decide +kernel) ⟨Nat.le_of_ble_eq_true rfl, Nat.le_of_ble_eq_true rfl⟩) (g_rModel C hW_296 hS_294 [.int (nI f_10), .int 20]) rfl rfl hl_290.1 rfl (lv_room (Nat.le_of_ble_eq_true rfl)) dX8_charges_103 ⟨Nat.zero_le _, Nat.zero_le _⟩) hS_294 (fun r_298 Y_299 H_300 locs_301 hW_302 hS_303 h_297 => ?_)
                  obtain ⟨h_304, h_297⟩ := h_297
                  replace h_304 : r_298 = (oM_feeds w_295 w_287 f_10 20).1 := h_304
                  subst h_304
                  replace h_297 : Y_299 = setRow (setRow (setRow (setRow X 15 (X.1 15)) 16 w_295) 20 w_287) 16 ((oM_feeds w_295 w_287 f_10 20).2) := h_297
                  obtain ⟨w_305, ew_305⟩ : ∃ Z9, Z9 = (oM_feeds w_295 w_287 f_10 20).2 := ⟨_, rfl⟩
                  have qqw_305 : Y_299 = setRow (setRow (setRow (setRow X 15 (X.1 15)) 16 w_295) 20 w_287) 16 w_305 := by rw [h_297, ew_305]
                  have hW_306 : Wd G (setRow (setRow (setRow X 15 (X.1 15)) 16 w_305) 20 w_287) H_300 := Wd.cast ((qqw_305).trans (congrArg (fun Z9 => Z9) (sr_in (by decide) sr_out))) hW_302
                  exact g_iret C hr hlk hW_306 hS_303 dX8_charges_106 (by subst ew_305; subst ew_295; subst ew_287; subst ew_254; subst ew_188; subst ew_56; exact ⟨(by first | rfl | (simp only [oM_charges, clf (show f_10 < 2 ^ 31 by omega), clf (show f_22 < 2 ^ 31 by omega), b_9, b_11, b_31, b_48, b_51, eq_true b_60, eq_true b_192, eq_true b_258, if_true, if_false, chP]; first | done | rfl)), (by first | rfl | (simp only [oM_charges, clf (show f_10 < 2 ^ 31 by omega), clf (show f_22 < 2 ^ 31 by omega), b_9, b_11, b_31, b_48, b_51, eq_true b_60, eq_true b_192, eq_true b_258, if_true, if_false, chP]; first | done | rfl))⟩)
          · have fb_51 : 0 = f_22 := (nI_eq (a := 0) (b := f_22) (by omega) (by omega)).mp b_51
            refine lv_iload_n hx hb dX8_charges_75 rfl (lv_at hl_50 4 rfl) ?_
            refine lv_goto (tgt := 80) hx hb dX8_charges_76 (by decide) ?_
            refine gm_partst C hW_45 hS_46 0 (by decide) (vlit (by decide)) dX8_charges_80 (fun H_307 locs_308 hW_309 hS_310 => ?_)
            obtain ⟨w_311, ew_311⟩ : ∃ Z9, Z9 = upd (X.1 20) (0) mass := ⟨_, rfl⟩
            have hW_312 : Wd G (setRow (setRow (setRow X 15 (X.1 15)) 16 (X.1 16)) 20 w_311) H_307 := Wd.cast (by rw [ew_311]; exact st_out) hW_309
            refine lv_iinc (v := 1) (lv' := [(4, .int 1), (0, .ref (ad G 723)), (1, .int (nI f_10)), (2, .int (nI f_22)), (3, .int mass)]) hx hb dX8_charges_81 hl_50 (k := 0) rfl (by decide) (by decide) rfl (fun ls_313 hl_314 => ?_)
            refine lv_goto (tgt := 57) hx hb dX8_charges_84 (by decide) ?_
            refine lv_iload hx hb dX8_charges_57 (lv_at hl_314 0 rfl) ?_
            refine lv_iconst (v := 4) hx hb dX8_charges_59 (by decide) ?_
            refine lv_icmp_ge (tgt := 87) hx hb dX8_charges_60 (by decide) (fun h9 => absurd h9 (by decide)) (fun _ => ?_)
            refine lv_aload_n hx hb dX8_charges_63 rfl (lv_at hl_314 1 rfl) ?_
            refine gM_part C hW_312 (hwc hwX8) (mc qw_1485) dX8_charges_64 ?_
            refine lv_iload hx hb dX8_charges_67 (lv_at hl_314 0 rfl) ?_
            refine lv_iload hx hb dX8_charges_69 (lv_at hl_314 0 rfl) ?_
            refine lv_iload_n hx hb dX8_charges_71 rfl (lv_at hl_314 3 rfl) ?_
            refine lv_icmp_ne (tgt := 79) hx hb dX8_charges_72 (by decide) (fun b_315 => ?_) (fun b_315 => ?_)
            · have fb_315 : ¬ 1 = f_22 := fun q9 => b_315 ((nI_eq (a := 1) (b := f_22) (by omega) (by omega)).mpr q9)
              refine lv_iconst (v := 0) hx hb dX8_charges_79 (by decide) ?_
              refine gm_partst C hW_312 hS_310 1 (by decide) (vlit (by decide)) dX8_charges_80 (fun H_316 locs_317 hW_318 hS_319 => ?_)
              obtain ⟨w_320, ew_320⟩ : ∃ Z9, Z9 = upd w_311 (1) 0 := ⟨_, rfl⟩
              have hW_321 : Wd G (setRow (setRow (setRow X 15 (X.1 15)) 16 (X.1 16)) 20 w_320) H_316 := Wd.cast (by rw [ew_320]; exact st_out) hW_318
              refine lv_iinc (v := 2) (lv' := [(4, .int 2), (0, .ref (ad G 723)), (1, .int (nI f_10)), (2, .int (nI f_22)), (3, .int mass)]) hx hb dX8_charges_81 hl_314 (k := 0) rfl (by decide) (by decide) rfl (fun ls_322 hl_323 => ?_)
              refine lv_goto (tgt := 57) hx hb dX8_charges_84 (by decide) ?_
              refine lv_iload hx hb dX8_charges_57 (lv_at hl_323 0 rfl) ?_
              refine lv_iconst (v := 4) hx hb dX8_charges_59 (by decide) ?_
              refine lv_icmp_ge (tgt := 87) hx hb dX8_charges_60 (by decide) (fun h9 => absurd h9 (by decide)) (fun _ => ?_)
              refine lv_aload_n hx hb dX8_charges_63 rfl (lv_at hl_323 1 rfl) ?_
              refine gM_part C hW_321 (hwc hwX8) (mc qw_1485) dX8_charges_64 ?_
              refine lv_iload hx hb dX8_charges_67 (lv_at hl_323 0 rfl) ?_
              refine lv_iload hx hb dX8_charges_69 (lv_at hl_323 0 rfl) ?_
              refine lv_iload_n hx hb dX8_charges_71 rfl (lv_at hl_323 3 rfl) ?_
              refine lv_icmp_ne (tgt := 79) hx hb dX8_charges_72 (by decide) (fun b_324 => ?_) (fun b_324 => ?_)
              · have fb_324 : ¬ 2 = f_22 := fun q9 => b_324 ((nI_eq (a := 2) (b := f_22) (by omega) (by omega)).mpr q9)
                refine lv_iconst (v := 0) hx hb dX8_charges_79 (by decide) ?_
                refine gm_partst C hW_321 hS_319 2 (by decide) (vlit (by decide)) dX8_charges_80 (fun H_325 locs_326 hW_327 hS_328 => ?_)
                obtain ⟨w_329, ew_329⟩ : ∃ Z9, Z9 = upd w_320 (2) 0 := ⟨_, rfl⟩
                have hW_330 : Wd G (setRow (setRow (setRow X 15 (X.1 15)) 16 (X.1 16)) 20 w_329) H_325 := Wd.cast (by rw [ew_329]; exact st_out) hW_327
                refine lv_iinc (v := 3) (lv' := [(4, .int 3), (0, .ref (ad G 723)), (1, .int (nI f_10)), (2, .int (nI f_22)), (3, .int mass)]) hx hb dX8_charges_81 hl_323 (k := 0) rfl (by decide) (by decide) rfl (fun ls_331 hl_332 => ?_)
                refine lv_goto (tgt := 57) hx hb dX8_charges_84 (by decide) ?_
                refine lv_iload hx hb dX8_charges_57 (lv_at hl_332 0 rfl) ?_
                refine lv_iconst (v := 4) hx hb dX8_charges_59 (by decide) ?_
                refine lv_icmp_ge (tgt := 87) hx hb dX8_charges_60 (by decide) (fun h9 => absurd h9 (by decide)) (fun _ => ?_)
                refine lv_aload_n hx hb dX8_charges_63 rfl (lv_at hl_332 1 rfl) ?_
                refine gM_part C hW_330 (hwc hwX8) (mc qw_1485) dX8_charges_64 ?_
                refine lv_iload hx hb dX8_charges_67 (lv_at hl_332 0 rfl) ?_
                refine lv_iload hx hb dX8_charges_69 (lv_at hl_332 0 rfl) ?_
                refine lv_iload_n hx hb dX8_charges_71 rfl (lv_at hl_332 3 rfl) ?_
                refine lv_icmp_ne (tgt := 79) hx hb dX8_charges_72 (by decide) (fun b_333 => ?_) (fun b_333 => ?_)
                · have fb_333 : ¬ 3 = f_22 := fun q9 => b_333 ((nI_eq (a := 3) (b := f_22) (by omega) (by omega)).mpr q9)
                  refine lv_iconst (v := 0) hx hb dX8_charges_79 (by decide) ?_
                  refine gm_partst C hW_330 hS_328 3 (by decide) (vlit (by decide)) dX8_charges_80 (fun H_334 locs_335 hW_336 hS_337 => ?_)
                  obtain ⟨w_338, ew_338⟩ : ∃ Z9, Z9 = upd w_329 (3) 0 := ⟨_, rfl⟩
                  have hW_339 : Wd G (setRow (setRow (setRow X 15 (X.1 15)) 16 (X.1 16)) 20 w_338) H_334 := Wd.cast (by rw [ew_338]; exact st_out) hW_336
                  refine lv_iinc (v := 4) (lv' := [(4, .int 4), (0, .ref (ad G 723)), (1, .int (nI f_10)), (2, .int (nI f_22)), (3, .int mass)]) hx hb dX8_charges_81 hl_332 (k := 0) rfl (by decide) (by decide) rfl (fun ls_340 hl_341 => ?_)
                  refine lv_goto (tgt := 57) hx hb dX8_charges_84 (by decide) ?_
                  refine lv_iload hx hb dX8_charges_57 (lv_at hl_341 0 rfl) ?_
                  refine lv_iconst (v := 4) hx hb dX8_charges_59 (by decide) ?_
                  refine lv_icmp_ge (tgt := 87) hx hb dX8_charges_60 (by decide) (fun _ => ?_) (fun h9 => absurd h9 (by decide))
                  refine lv_aload_n hx hb dX8_charges_87 rfl (lv_at hl_341 1 rfl) ?_
                  refine gM_v C hW_339 (hwc hwX8) (mc qw_1481) dX8_charges_88 ?_
                  refine lv_iconst (v := 1) hx hb dX8_charges_91 (by decide) ?_
                  refine lv_iload_n hx hb dX8_charges_92 rfl (lv_at hl_341 3 rfl) ?_
                  refine lv_iadd hx hb dX8_charges_93 ?_
                  refine g_top (y := nI (1 + f_22)) (nI_add 1 f_22) ?_
                  refine lv_dup2_11 hx hb dX8_charges_94 rfl rfl ?_
                  refine gm_vld C hW_339 (1 + f_22) (nI_clamp (by omega)) (vp_in_nI (show 1 + f_22 < 128 by omega) (by decide)) dX8_charges_95 ?_
                  refine g_top (y := X.1 16 (1 + f_22)) (congrFun (rd_in (by decide) rd_out) _) ?_
                  refine lv_iload_n hx hb dX8_charges_96 rfl (lv_at hl_341 4 rfl) ?_
                  refine lv_iadd hx hb dX8_charges_97 ?_
                  refine gm_vst C hW_339 hS_337 (1 + f_22) (nI_clamp (by omega)) (vp_in_nI (show 1 + f_22 < 128 by omega) (by decide)) dX8_charges_98 (fun H_342 locs_343 hW_344 hS_345 => ?_)
                  obtain ⟨w_346, ew_346⟩ : ∃ Z9, Z9 = upd (X.1 16) (1 + f_22) ((X.1 16 (1 + f_22)) + mass) := ⟨_, rfl⟩
                  have hW_347 : Wd G (setRow (setRow (setRow X 15 (X.1 15)) 16 w_346) 20 w_338) H_342 := Wd.cast (by rw [ew_346]; exact (st_in (by decide) st_out)) hW_344
                  refine lv_aload_n hx hb dX8_charges_99 rfl (lv_at hl_341 1 rfl) ?_
                  refine lv_iload_n hx hb dX8_charges_100 rfl (lv_at hl_341 2 rfl) ?_
                  refine lv_bipush (v := 20) hx hb dX8_charges_101 (by decide) ?_
                  refine g_calli (va_runV (As := [.int (nI f_10), .int 20]) (rest := []) C.1 (cX8_feeds_ok l G (setRow (setRow (setRow X 15 (X.1 15)) 16 w_346) 20 w_338) f_10 20 (show f_10 < 3 by omega) (nz_feed (s := k0 + 0 + 0 + 0) (hm.1 f_10 (by omega)) (fun j hj => by rw [ew_346]; exact pk_un (by omega)) ⟨k0, 0, 0, 0, (by subst ew_346; subst ew_338; subst ew_329; subst ew_320; subst ew_311; exact hk03), (by subst ew_346; subst ew_338; subst ew_329; subst ew_320; subst ew_311; rfl), (by subst ew_346; subst ew_338; subst ew_329; subst ew_320; subst ew_311; rfl), (by subst ew_346; subst ew_338; subst ew_329; subst ew_320; subst ew_311; rfl), rfl⟩ (by omega))) (cwV 2 C.1.2.2.2.2 (gV qw_1579 qw_1581 qw_33 qw_81 qw_1582) rfl rfl rfl (by decide +kernel) ⟨Nat.le_of_ble_eq_true rfl, Nat.le_of_ble_eq_true rfl⟩) (g_rModel C hW_347 hS_345 [.int (nI f_10), .int 20]) rfl rfl hl_341.1 rfl (lv_room (Nat.le_of_ble_eq_true rfl)) dX8_charges_103 ⟨Nat.zero_le _, Nat.zero_le _⟩) hS_345 (fun r_349 Y_350 H_351 locs_352 hW_353 hS_354 h_348 => ?_)
                  obtain ⟨h_355, h_348⟩ := h_348
                  replace h_355 : r_349 = (oM_feeds w_346 w_338 f_10 20).1 := h_355
                  subst h_355
                  replace h_348 : Y_350 = setRow (setRow (setRow (setRow X 15 (X.1 15)) 16 w_346) 20 w_338) 16 ((oM_feeds w_346 w_338 f_10 20).2) := h_348
                  obtain ⟨w_356, ew_356⟩ : ∃ Z9, Z9 = (oM_feeds w_346 w_338 f_10 20).2 := ⟨_, rfl⟩
                  have qqw_356 : Y_350 = setRow (setRow (setRow (setRow X 15 (X.1 15)) 16 w_346) 20 w_338) 16 w_356 := by rw [h_348, ew_356]
                  have hW_357 : Wd G (setRow (setRow (setRow X 15 (X.1 15)) 16 w_356) 20 w_338) H_351 := Wd.cast ((qqw_356).trans (congrArg (fun Z9 => Z9) (sr_in (by decide) sr_out))) hW_353
                  exact g_iret C hr hlk hW_357 hS_354 dX8_charges_106 (by subst ew_356; subst ew_346; subst ew_338; subst ew_329; subst ew_320; subst ew_311; exact ⟨(by first | rfl | (simp only [oM_charges, clf (show f_10 < 2 ^ 31 by omega), clf (show f_22 < 2 ^ 31 by omega), b_9, b_11, b_31, b_48, eq_true b_51, b_315, b_324, b_333, if_true, if_false, chP]; first | done | rfl)), (by first | rfl | (simp only [oM_charges, clf (show f_10 < 2 ^ 31 by omega), clf (show f_22 < 2 ^ 31 by omega), b_9, b_11, b_31, b_48, eq_true b_51, b_315, b_324, b_333, if_true, if_false, chP]; first | done | rfl))⟩)
                · have fb_333 : 3 = f_22 := (nI_eq (a := 3) (b := f_22) (by omega) (by omega)).mp b_333
                  refine lv_iload_n hx hb dX8_charges_75 rfl (lv_at hl_332 4 rfl) ?_
                  refine lv_goto (tgt := 80) hx hb dX8_charges_76 (by decide) ?_
                  refine gm_partst C hW_330 hS_328 3 (by decide) (vlit (by decide)) dX8_charges_80 (fun H_358 locs_359 hW_360 hS_361 => ?_)
                  obtain ⟨w_362, ew_362⟩ : ∃ Z9, Z9 = upd w_329 (3) mass := ⟨_, rfl⟩
                  have hW_363 : Wd G (setRow (setRow (setRow X 15 (X.1 15)) 16 (X.1 16)) 20 w_362) H_358 := Wd.cast (by rw [ew_362]; exact st_out) hW_360
                  refine lv_iinc (v := 4) (lv' := [(4, .int 4), (0, .ref (ad G 723)), (1, .int (nI f_10)), (2, .int (nI f_22)), (3, .int mass)]) hx hb dX8_charges_81 hl_332 (k := 0) rfl (by decide) (by decide) rfl (fun ls_364 hl_365 => ?_)
                  refine lv_goto (tgt := 57) hx hb dX8_charges_84 (by decide) ?_
                  refine lv_iload hx hb dX8_charges_57 (lv_at hl_365 0 rfl) ?_
                  refine lv_iconst (v := 4) hx hb dX8_charges_59 (by decide) ?_
                  refine lv_icmp_ge (tgt := 87) hx hb dX8_charges_60 (by decide) (fun _ => ?_) (fun h9 => absurd h9 (by decide))
                  refine lv_aload_n hx hb dX8_charges_87 rfl (lv_at hl_365 1 rfl) ?_
                  refine gM_v C hW_363 (hwc hwX8) (mc qw_1481) dX8_charges_88 ?_
                  refine lv_iconst (v := 1) hx hb dX8_charges_91 (by decide) ?_
                  refine lv_iload_n hx hb dX8_charges_92 rfl (lv_at hl_365 3 rfl) ?_
                  refine lv_iadd hx hb dX8_charges_93 ?_
                  refine g_top (y := nI (1 + f_22)) (nI_add 1 f_22) ?_
                  refine lv_dup2_11 hx hb dX8_charges_94 rfl rfl ?_
                  refine gm_vld C hW_363 (1 + f_22) (nI_clamp (by omega)) (vp_in_nI (show 1 + f_22 < 128 by omega) (by decide)) dX8_charges_95 ?_
                  refine g_top (y := X.1 16 (1 + f_22)) (congrFun (rd_in (by decide) rd_out) _) ?_
                  refine lv_iload_n hx hb dX8_charges_96 rfl (lv_at hl_365 4 rfl) ?_
                  refine lv_iadd hx hb dX8_charges_97 ?_
                  refine gm_vst C hW_363 hS_361 (1 + f_22) (nI_clamp (by omega)) (vp_in_nI (show 1 + f_22 < 128 by omega) (by decide)) dX8_charges_98 (fun H_366 locs_367 hW_368 hS_369 => ?_)
                  obtain ⟨w_370, ew_370⟩ : ∃ Z9, Z9 = upd (X.1 16) (1 + f_22) ((X.1 16 (1 + f_22)) + mass) := ⟨_, rfl⟩
                  have hW_371 : Wd G (setRow (setRow (setRow X 15 (X.1 15)) 16 w_370) 20 w_362) H_366 := Wd.cast (by rw [ew_370]; exact (st_in (by decide) st_out)) hW_368
                  refine lv_aload_n hx hb dX8_charges_99 rfl (lv_at hl_365 1 rfl) ?_
                  refine lv_iload_n hx hb dX8_charges_100 rfl (lv_at hl_365 2 rfl) ?_
                  refine lv_bipush (v := 20) hx hb dX8_charges_101 (by decide) ?_
                  refine g_calli (va_runV (As := [.int (nI f_10), .int 20]) (rest := []) C.1 (cX8_feeds_ok l G (setRow (setRow (setRow X 15 (X.1 15)) 16 w_370) 20 w_362) f_10 20 (show f_10 < 3 by omega) (nz_feed (s := k0 + 0 + 0 + k0) (hm.1 f_10 (by omega)) (fun j hj => by rw [ew_370]; exact pk_un (by omega)) ⟨k0, 0, 0, k0, (by subst ew_370; subst ew_362; subst ew_329; subst ew_320; subst ew_311; exact hk03), (by subst ew_370; subst ew_362; subst ew_329; subst ew_320; subst ew_311; rfl), (by subst ew_370; subst ew_362; subst ew_329; subst ew_320; subst ew_311; rfl), (by subst ew_370; subst ew_362; subst ew_329; subst ew_320; subst ew_311; exact hk03), rfl⟩ (by omega))) (cwV 2 C.1.2.2.2.2 (gV qw_1579 qw_1581 qw_33 qw_81 qw_1582) rfl rfl rfl (by decide +kernel) ⟨Nat.le_of_ble_eq_true rfl, Nat.le_of_ble_eq_true rfl⟩) (g_rModel C hW_371 hS_369 [.int (nI f_10), .int 20]) rfl rfl hl_365.1 rfl (lv_room (Nat.le_of_ble_eq_true rfl)) dX8_charges_103 ⟨Nat.zero_le _, Nat.zero_le _⟩) hS_369 (fun r_373 Y_374 H_375 locs_376 hW_377 hS_378 h_372 => ?_)
                  obtain ⟨h_379, h_372⟩ := h_372
                  replace h_379 : r_373 = (oM_feeds w_370 w_362 f_10 20).1 := h_379
                  subst h_379
                  replace h_372 : Y_374 = setRow (setRow (setRow (setRow X 15 (X.1 15)) 16 w_370) 20 w_362) 16 ((oM_feeds w_370 w_362 f_10 20).2) := h_372
                  obtain ⟨w_380, ew_380⟩ : ∃ Z9, Z9 = (oM_feeds w_370 w_362 f_10 20).2 := ⟨_, rfl⟩
                  have qqw_380 : Y_374 = setRow (setRow (setRow (setRow X 15 (X.1 15)) 16 w_370) 20 w_362) 16 w_380 := by rw [h_372, ew_380]
                  have hW_381 : Wd G (setRow (setRow (setRow X 15 (X.1 15)) 16 w_380) 20 w_362) H_375 := Wd.cast ((qqw_380).trans (congrArg (fun Z9 => Z9) (sr_in (by decide) sr_out))) hW_377
                  exact g_iret C hr hlk hW_381 hS_378 dX8_charges_106 (by subst ew_380; subst ew_370; subst ew_362; subst ew_329; subst ew_320; subst ew_311; exact ⟨(by first | rfl | (simp only [oM_charges, clf (show f_10 < 2 ^ 31 by omega), clf (show f_22 < 2 ^ 31 by omega), b_9, b_11, b_31, b_48, eq_true b_51, b_315, b_324, eq_true b_333, if_true, if_false, chP]; first | done | rfl)), (by first | rfl | (simp only [oM_charges, clf (show f_10 < 2 ^ 31 by omega), clf (show f_22 < 2 ^ 31 by omega), b_9, b_11, b_31, b_48, eq_true b_51, b_315, b_324, eq_true b_333, if_true, if_false, chP]; first | done | rfl))⟩)
              · have fb_324 : 2 = f_22 := (nI_eq (a := 2) (b := f_22) (by omega) (by omega)).mp b_324
                refine lv_iload_n hx hb dX8_charges_75 rfl (lv_at hl_323 4 rfl) ?_
                refine lv_goto (tgt := 80) hx hb dX8_charges_76 (by decide) ?_
                refine gm_partst C hW_321 hS_319 2 (by decide) (vlit (by decide)) dX8_charges_80 (fun H_382 locs_383 hW_384 hS_385 => ?_)
                obtain ⟨w_386, ew_386⟩ : ∃ Z9, Z9 = upd w_320 (2) mass := ⟨_, rfl⟩
                have hW_387 : Wd G (setRow (setRow (setRow X 15 (X.1 15)) 16 (X.1 16)) 20 w_386) H_382 := Wd.cast (by rw [ew_386]; exact st_out) hW_384
                refine lv_iinc (v := 3) (lv' := [(4, .int 3), (0, .ref (ad G 723)), (1, .int (nI f_10)), (2, .int (nI f_22)), (3, .int mass)]) hx hb dX8_charges_81 hl_323 (k := 0) rfl (by decide) (by decide) rfl (fun ls_388 hl_389 => ?_)
                refine lv_goto (tgt := 57) hx hb dX8_charges_84 (by decide) ?_
                refine lv_iload hx hb dX8_charges_57 (lv_at hl_389 0 rfl) ?_
                refine lv_iconst (v := 4) hx hb dX8_charges_59 (by decide) ?_
                refine lv_icmp_ge (tgt := 87) hx hb dX8_charges_60 (by decide) (fun h9 => absurd h9 (by decide)) (fun _ => ?_)
                refine lv_aload_n hx hb dX8_charges_63 rfl (lv_at hl_389 1 rfl) ?_
                refine gM_part C hW_387 (hwc hwX8) (mc qw_1485) dX8_charges_64 ?_
                refine lv_iload hx hb dX8_charges_67 (lv_at hl_389 0 rfl) ?_
                refine lv_iload hx hb dX8_charges_69 (lv_at hl_389 0 rfl) ?_
                refine lv_iload_n hx hb dX8_charges_71 rfl (lv_at hl_389 3 rfl) ?_
                refine lv_icmp_ne (tgt := 79) hx hb dX8_charges_72 (by decide) (fun b_390 => ?_) (fun b_390 => ?_)
                · have fb_390 : ¬ 3 = f_22 := fun q9 => b_390 ((nI_eq (a := 3) (b := f_22) (by omega) (by omega)).mpr q9)
                  refine lv_iconst (v := 0) hx hb dX8_charges_79 (by decide) ?_
                  refine gm_partst C hW_387 hS_385 3 (by decide) (vlit (by decide)) dX8_charges_80 (fun H_391 locs_392 hW_393 hS_394 => ?_)
                  obtain ⟨w_395, ew_395⟩ : ∃ Z9, Z9 = upd w_386 (3) 0 := ⟨_, rfl⟩
                  have hW_396 : Wd G (setRow (setRow (setRow X 15 (X.1 15)) 16 (X.1 16)) 20 w_395) H_391 := Wd.cast (by rw [ew_395]; exact st_out) hW_393
                  refine lv_iinc (v := 4) (lv' := [(4, .int 4), (0, .ref (ad G 723)), (1, .int (nI f_10)), (2, .int (nI f_22)), (3, .int mass)]) hx hb dX8_charges_81 hl_389 (k := 0) rfl (by decide) (by decide) rfl (fun ls_397 hl_398 => ?_)
                  refine lv_goto (tgt := 57) hx hb dX8_charges_84 (by decide) ?_
                  refine lv_iload hx hb dX8_charges_57 (lv_at hl_398 0 rfl) ?_
                  refine lv_iconst (v := 4) hx hb dX8_charges_59 (by decide) ?_
                  refine lv_icmp_ge (tgt := 87) hx hb dX8_charges_60 (by decide) (fun _ => ?_) (fun h9 => absurd h9 (by decide))
                  refine lv_aload_n hx hb dX8_charges_87 rfl (lv_at hl_398 1 rfl) ?_
                  refine gM_v C hW_396 (hwc hwX8) (mc qw_1481) dX8_charges_88 ?_
                  refine lv_iconst (v := 1) hx hb dX8_charges_91 (by decide) ?_
                  refine lv_iload_n hx hb dX8_charges_92 rfl (lv_at hl_398 3 rfl) ?_
                  refine lv_iadd hx hb dX8_charges_93 ?_
                  refine g_top (y := nI (1 + f_22)) (nI_add 1 f_22) ?_
                  refine lv_dup2_11 hx hb dX8_charges_94 rfl rfl ?_
                  refine gm_vld C hW_396 (1 + f_22) (nI_clamp (by omega)) (vp_in_nI (show 1 + f_22 < 128 by omega) (by decide)) dX8_charges_95 ?_
                  refine g_top (y := X.1 16 (1 + f_22)) (congrFun (rd_in (by decide) rd_out) _) ?_
                  refine lv_iload_n hx hb dX8_charges_96 rfl (lv_at hl_398 4 rfl) ?_
                  refine lv_iadd hx hb dX8_charges_97 ?_
                  refine gm_vst C hW_396 hS_394 (1 + f_22) (nI_clamp (by omega)) (vp_in_nI (show 1 + f_22 < 128 by omega) (by decide)) dX8_charges_98 (fun H_399 locs_400 hW_401 hS_402 => ?_)
                  obtain ⟨w_403, ew_403⟩ : ∃ Z9, Z9 = upd (X.1 16) (1 + f_22) ((X.1 16 (1 + f_22)) + mass) := ⟨_, rfl⟩
                  have hW_404 : Wd G (setRow (setRow (setRow X 15 (X.1 15)) 16 w_403) 20 w_395) H_399 := Wd.cast (by rw [ew_403]; exact (st_in (by decide) st_out)) hW_401
                  refine lv_aload_n hx hb dX8_charges_99 rfl (lv_at hl_398 1 rfl) ?_
                  refine lv_iload_n hx hb dX8_charges_100 rfl (lv_at hl_398 2 rfl) ?_
                  refine lv_bipush (v := 20) hx hb dX8_charges_101 (by decide) ?_
                  refine g_calli (va_runV (As := [.int (nI f_10), .int 20]) (rest := []) C.1 (cX8_feeds_ok l G (setRow (setRow (setRow X 15 (X.1 15)) 16 w_403) 20 w_395) f_10 20 (show f_10 < 3 by omega) (nz_feed (s := k0 + 0 + k0 + 0) (hm.1 f_10 (by omega)) (fun j hj => by rw [ew_403]; exact pk_un (by omega)) ⟨k0, 0, k0, 0, (by subst ew_403; subst ew_395; subst ew_386; subst ew_320; subst ew_311; exact hk03), (by subst ew_403; subst ew_395; subst ew_386; subst ew_320; subst ew_311; rfl), (by subst ew_403; subst ew_395; subst ew_386; subst ew_320; subst ew_311; exact hk03), (by subst ew_403; subst ew_395; subst ew_386; subst ew_320; subst ew_311; rfl), rfl⟩ (by omega))) (cwV 2 C.1.2.2.2.2 (gV qw_1579 qw_1581 qw_33 qw_81 qw_1582) rfl rfl rfl (by decide +kernel) ⟨Nat.le_of_ble_eq_true rfl, Nat.le_of_ble_eq_true rfl⟩) (g_rModel C hW_404 hS_402 [.int (nI f_10), .int 20]) rfl rfl hl_398.1 rfl (lv_room (Nat.le_of_ble_eq_true rfl)) dX8_charges_103 ⟨Nat.zero_le _, Nat.zero_le _⟩) hS_402 (fun r_406 Y_407 H_408 locs_409 hW_410 hS_411 h_405 => ?_)
                  obtain ⟨h_412, h_405⟩ := h_405
                  replace h_412 : r_406 = (oM_feeds w_403 w_395 f_10 20).1 := h_412
                  subst h_412
                  replace h_405 : Y_407 = setRow (setRow (setRow (setRow X 15 (X.1 15)) 16 w_403) 20 w_395) 16 ((oM_feeds w_403 w_395 f_10 20).2) := h_405
                  obtain ⟨w_413, ew_413⟩ : ∃ Z9, Z9 = (oM_feeds w_403 w_395 f_10 20).2 := ⟨_, rfl⟩
                  have qqw_413 : Y_407 = setRow (setRow (setRow (setRow X 15 (X.1 15)) 16 w_403) 20 w_395) 16 w_413 := by rw [h_405, ew_413]
                  have hW_414 : Wd G (setRow (setRow (setRow X 15 (X.1 15)) 16 w_413) 20 w_395) H_408 := Wd.cast ((qqw_413).trans (congrArg (fun Z9 => Z9) (sr_in (by decide) sr_out))) hW_410
                  exact g_iret C hr hlk hW_414 hS_411 dX8_charges_106 (by subst ew_413; subst ew_403; subst ew_395; subst ew_386; subst ew_320; subst ew_311; exact ⟨(by first | rfl | (simp only [oM_charges, clf (show f_10 < 2 ^ 31 by omega), clf (show f_22 < 2 ^ 31 by omega), b_9, b_11, b_31, b_48, eq_true b_51, b_315, eq_true b_324, b_390, if_true, if_false, chP]; first | done | rfl)), (by first | rfl | (simp only [oM_charges, clf (show f_10 < 2 ^ 31 by omega), clf (show f_22 < 2 ^ 31 by omega), b_9, b_11, b_31, b_48, eq_true b_51, b_315, eq_true b_324, b_390, if_true, if_false, chP]; first | done | rfl))⟩)
                · have fb_390 : 3 = f_22 := (nI_eq (a := 3) (b := f_22) (by omega) (by omega)).mp b_390
                  refine lv_iload_n hx hb dX8_charges_75 rfl (lv_at hl_389 4 rfl) ?_
                  refine lv_goto (tgt := 80) hx hb dX8_charges_76 (by decide) ?_
                  refine gm_partst C hW_387 hS_385 3 (by decide) (vlit (by decide)) dX8_charges_80 (fun H_415 locs_416 hW_417 hS_418 => ?_)
                  obtain ⟨w_419, ew_419⟩ : ∃ Z9, Z9 = upd w_386 (3) mass := ⟨_, rfl⟩
                  have hW_420 : Wd G (setRow (setRow (setRow X 15 (X.1 15)) 16 (X.1 16)) 20 w_419) H_415 := Wd.cast (by rw [ew_419]; exact st_out) hW_417
                  refine lv_iinc (v := 4) (lv' := [(4, .int 4), (0, .ref (ad G 723)), (1, .int (nI f_10)), (2, .int (nI f_22)), (3, .int mass)]) hx hb dX8_charges_81 hl_389 (k := 0) rfl (by decide) (by decide) rfl (fun ls_421 hl_422 => ?_)
                  refine lv_goto (tgt := 57) hx hb dX8_charges_84 (by decide) ?_
                  refine lv_iload hx hb dX8_charges_57 (lv_at hl_422 0 rfl) ?_
                  refine lv_iconst (v := 4) hx hb dX8_charges_59 (by decide) ?_
                  refine lv_icmp_ge (tgt := 87) hx hb dX8_charges_60 (by decide) (fun _ => ?_) (fun h9 => absurd h9 (by decide))
                  refine lv_aload_n hx hb dX8_charges_87 rfl (lv_at hl_422 1 rfl) ?_
                  refine gM_v C hW_420 (hwc hwX8) (mc qw_1481) dX8_charges_88 ?_
                  refine lv_iconst (v := 1) hx hb dX8_charges_91 (by decide) ?_
                  refine lv_iload_n hx hb dX8_charges_92 rfl (lv_at hl_422 3 rfl) ?_
                  refine lv_iadd hx hb dX8_charges_93 ?_
                  refine g_top (y := nI (1 + f_22)) (nI_add 1 f_22) ?_
                  refine lv_dup2_11 hx hb dX8_charges_94 rfl rfl ?_
                  refine gm_vld C hW_420 (1 + f_22) (nI_clamp (by omega)) (vp_in_nI (show 1 + f_22 < 128 by omega) (by decide)) dX8_charges_95 ?_
                  refine g_top (y := X.1 16 (1 + f_22)) (congrFun (rd_in (by decide) rd_out) _) ?_
                  refine lv_iload_n hx hb dX8_charges_96 rfl (lv_at hl_422 4 rfl) ?_
                  refine lv_iadd hx hb dX8_charges_97 ?_
                  refine gm_vst C hW_420 hS_418 (1 + f_22) (nI_clamp (by omega)) (vp_in_nI (show 1 + f_22 < 128 by omega) (by decide)) dX8_charges_98 (fun H_423 locs_424 hW_425 hS_426 => ?_)
                  obtain ⟨w_427, ew_427⟩ : ∃ Z9, Z9 = upd (X.1 16) (1 + f_22) ((X.1 16 (1 + f_22)) + mass) := ⟨_, rfl⟩
                  have hW_428 : Wd G (setRow (setRow (setRow X 15 (X.1 15)) 16 w_427) 20 w_419) H_423 := Wd.cast (by rw [ew_427]; exact (st_in (by decide) st_out)) hW_425
                  refine lv_aload_n hx hb dX8_charges_99 rfl (lv_at hl_422 1 rfl) ?_
                  refine lv_iload_n hx hb dX8_charges_100 rfl (lv_at hl_422 2 rfl) ?_
                  refine lv_bipush (v := 20) hx hb dX8_charges_101 (by decide) ?_
                  refine g_calli (va_runV (As := [.int (nI f_10), .int 20]) (rest := []) C.1 (cX8_feeds_ok l G (setRow (setRow (setRow X 15 (X.1 15)) 16 w_427) 20 w_419) f_10 20 (show f_10 < 3 by omega) (nz_feed (s := k0 + 0 + k0 + k0) (hm.1 f_10 (by omega)) (fun j hj => by rw [ew_427]; exact pk_un (by omega)) ⟨k0, 0, k0, k0, (by subst ew_427; subst ew_419; subst ew_386; subst ew_320; subst ew_311; exact hk03), (by subst ew_427; subst ew_419; subst ew_386; subst ew_320; subst ew_311; rfl), (by subst ew_427; subst ew_419; subst ew_386; subst ew_320; subst ew_311; exact hk03), (by subst ew_427; subst ew_419; subst ew_386; subst ew_320; subst ew_311; exact hk03), rfl⟩ (by omega))) (cwV 2 C.1.2.2.2.2 (gV qw_1579 qw_1581 qw_33 qw_81 qw_1582) rfl rfl rfl (by decide +kernel) ⟨Nat.le_of_ble_eq_true rfl, Nat.le_of_ble_eq_true rfl⟩) (g_rModel C hW_428 hS_426 [.int (nI f_10), .int 20]) rfl rfl hl_422.1 rfl (lv_room (Nat.le_of_ble_eq_true rfl)) dX8_charges_103 ⟨Nat.zero_le _, Nat.zero_le _⟩) hS_426 (fun r_430 Y_431 H_432 locs_433 hW_434 hS_435 h_429 => ?_)
                  obtain ⟨h_436, h_429⟩ := h_429
                  replace h_436 : r_430 = (oM_feeds w_427 w_419 f_10 20).1 := h_436
                  subst h_436
                  replace h_429 : Y_431 = setRow (setRow (setRow (setRow X 15 (X.1 15)) 16 w_427) 20 w_419) 16 ((oM_feeds w_427 w_419 f_10 20).2) := h_429
                  obtain ⟨w_437, ew_437⟩ : ∃ Z9, Z9 = (oM_feeds w_427 w_419 f_10 20).2 := ⟨_, rfl⟩
                  have qqw_437 : Y_431 = setRow (setRow (setRow (setRow X 15 (X.1 15)) 16 w_427) 20 w_419) 16 w_437 := by rw [h_429, ew_437]
                  have hW_438 : Wd G (setRow (setRow (setRow X 15 (X.1 15)) 16 w_437) 20 w_419) H_432 := Wd.cast ((qqw_437).trans (congrArg (fun Z9 => Z9) (sr_in (by decide) sr_out))) hW_434
                  exact g_iret C hr hlk hW_438 hS_435 dX8_charges_106 (by subst ew_437; subst ew_427; subst ew_419; subst ew_386; subst ew_320; subst ew_311; exact ⟨(by first | rfl | (simp only [oM_charges, clf (show f_10 < 2 ^ 31 by omega), clf (show f_22 < 2 ^ 31 by omega), b_9, b_11, b_31, b_48, eq_true b_51, b_315, eq_true b_324, eq_true b_390, if_true, if_false, chP]; first | done | rfl)), (by first | rfl | (simp only [oM_charges, clf (show f_10 < 2 ^ 31 by omega), clf (show f_22 < 2 ^ 31 by omega), b_9, b_11, b_31, b_48, eq_true b_51, b_315, eq_true b_324, eq_true b_390, if_true, if_false, chP]; first | done | rfl))⟩)
            · have fb_315 : 1 = f_22 := (nI_eq (a := 1) (b := f_22) (by omega) (by omega)).mp b_315
              refine lv_iload_n hx hb dX8_charges_75 rfl (lv_at hl_314 4 rfl) ?_
              refine lv_goto (tgt := 80) hx hb dX8_charges_76 (by decide) ?_
              refine gm_partst C hW_312 hS_310 1 (by decide) (vlit (by decide)) dX8_charges_80 (fun H_439 locs_440 hW_441 hS_442 => ?_)
              obtain ⟨w_443, ew_443⟩ : ∃ Z9, Z9 = upd w_311 (1) mass := ⟨_, rfl⟩
              have hW_444 : Wd G (setRow (setRow (setRow X 15 (X.1 15)) 16 (X.1 16)) 20 w_443) H_439 := Wd.cast (by rw [ew_443]; exact st_out) hW_441
              refine lv_iinc (v := 2) (lv' := [(4, .int 2), (0, .ref (ad G 723)), (1, .int (nI f_10)), (2, .int (nI f_22)), (3, .int mass)]) hx hb dX8_charges_81 hl_314 (k := 0) rfl (by decide) (by decide) rfl (fun ls_445 hl_446 => ?_)
              refine lv_goto (tgt := 57) hx hb dX8_charges_84 (by decide) ?_
              refine lv_iload hx hb dX8_charges_57 (lv_at hl_446 0 rfl) ?_
              refine lv_iconst (v := 4) hx hb dX8_charges_59 (by decide) ?_
              refine lv_icmp_ge (tgt := 87) hx hb dX8_charges_60 (by decide) (fun h9 => absurd h9 (by decide)) (fun _ => ?_)
              refine lv_aload_n hx hb dX8_charges_63 rfl (lv_at hl_446 1 rfl) ?_
              refine gM_part C hW_444 (hwc hwX8) (mc qw_1485) dX8_charges_64 ?_
              refine lv_iload hx hb dX8_charges_67 (lv_at hl_446 0 rfl) ?_
              refine lv_iload hx hb dX8_charges_69 (lv_at hl_446 0 rfl) ?_
              refine lv_iload_n hx hb dX8_charges_71 rfl (lv_at hl_446 3 rfl) ?_
              refine lv_icmp_ne (tgt := 79) hx hb dX8_charges_72 (by decide) (fun b_447 => ?_) (fun b_447 => ?_)
              · have fb_447 : ¬ 2 = f_22 := fun q9 => b_447 ((nI_eq (a := 2) (b := f_22) (by omega) (by omega)).mpr q9)
                refine lv_iconst (v := 0) hx hb dX8_charges_79 (by decide) ?_
                refine gm_partst C hW_444 hS_442 2 (by decide) (vlit (by decide)) dX8_charges_80 (fun H_448 locs_449 hW_450 hS_451 => ?_)
                obtain ⟨w_452, ew_452⟩ : ∃ Z9, Z9 = upd w_443 (2) 0 := ⟨_, rfl⟩
                have hW_453 : Wd G (setRow (setRow (setRow X 15 (X.1 15)) 16 (X.1 16)) 20 w_452) H_448 := Wd.cast (by rw [ew_452]; exact st_out) hW_450
                refine lv_iinc (v := 3) (lv' := [(4, .int 3), (0, .ref (ad G 723)), (1, .int (nI f_10)), (2, .int (nI f_22)), (3, .int mass)]) hx hb dX8_charges_81 hl_446 (k := 0) rfl (by decide) (by decide) rfl (fun ls_454 hl_455 => ?_)
                refine lv_goto (tgt := 57) hx hb dX8_charges_84 (by decide) ?_
                refine lv_iload hx hb dX8_charges_57 (lv_at hl_455 0 rfl) ?_
                refine lv_iconst (v := 4) hx hb dX8_charges_59 (by decide) ?_
                refine lv_icmp_ge (tgt := 87) hx hb dX8_charges_60 (by decide) (fun h9 => absurd h9 (by decide)) (fun _ => ?_)
                refine lv_aload_n hx hb dX8_charges_63 rfl (lv_at hl_455 1 rfl) ?_
                refine gM_part C hW_453 (hwc hwX8) (mc qw_1485) dX8_charges_64 ?_
                refine lv_iload hx hb dX8_charges_67 (lv_at hl_455 0 rfl) ?_
                refine lv_iload hx hb dX8_charges_69 (lv_at hl_455 0 rfl) ?_
                refine lv_iload_n hx hb dX8_charges_71 rfl (lv_at hl_455 3 rfl) ?_
                refine lv_icmp_ne (tgt := 79) hx hb dX8_charges_72 (by decide) (fun b_456 => ?_) (fun b_456 => ?_)
                · have fb_456 : ¬ 3 = f_22 := fun q9 => b_456 ((nI_eq (a := 3) (b := f_22) (by omega) (by omega)).mpr q9)
                  refine lv_iconst (v := 0) hx hb dX8_charges_79 (by decide) ?_
                  refine gm_partst C hW_453 hS_451 3 (by decide) (vlit (by decide)) dX8_charges_80 (fun H_457 locs_458 hW_459 hS_460 => ?_)
                  obtain ⟨w_461, ew_461⟩ : ∃ Z9, Z9 = upd w_452 (3) 0 := ⟨_, rfl⟩
                  have hW_462 : Wd G (setRow (setRow (setRow X 15 (X.1 15)) 16 (X.1 16)) 20 w_461) H_457 := Wd.cast (by rw [ew_461]; exact st_out) hW_459
                  refine lv_iinc (v := 4) (lv' := [(4, .int 4), (0, .ref (ad G 723)), (1, .int (nI f_10)), (2, .int (nI f_22)), (3, .int mass)]) hx hb dX8_charges_81 hl_455 (k := 0) rfl (by decide) (by decide) rfl (fun ls_463 hl_464 => ?_)
                  refine lv_goto (tgt := 57) hx hb dX8_charges_84 (by decide) ?_
                  refine lv_iload hx hb dX8_charges_57 (lv_at hl_464 0 rfl) ?_
                  refine lv_iconst (v := 4) hx hb dX8_charges_59 (by decide) ?_
                  refine lv_icmp_ge (tgt := 87) hx hb dX8_charges_60 (by decide) (fun _ => ?_) (fun h9 => absurd h9 (by decide))
                  refine lv_aload_n hx hb dX8_charges_87 rfl (lv_at hl_464 1 rfl) ?_
                  refine gM_v C hW_462 (hwc hwX8) (mc qw_1481) dX8_charges_88 ?_
                  refine lv_iconst (v := 1) hx hb dX8_charges_91 (by decide) ?_
                  refine lv_iload_n hx hb dX8_charges_92 rfl (lv_at hl_464 3 rfl) ?_
                  refine lv_iadd hx hb dX8_charges_93 ?_
                  refine g_top (y := nI (1 + f_22)) (nI_add 1 f_22) ?_
                  refine lv_dup2_11 hx hb dX8_charges_94 rfl rfl ?_
                  refine gm_vld C hW_462 (1 + f_22) (nI_clamp (by omega)) (vp_in_nI (show 1 + f_22 < 128 by omega) (by decide)) dX8_charges_95 ?_
                  refine g_top (y := X.1 16 (1 + f_22)) (congrFun (rd_in (by decide) rd_out) _) ?_
                  refine lv_iload_n hx hb dX8_charges_96 rfl (lv_at hl_464 4 rfl) ?_
                  refine lv_iadd hx hb dX8_charges_97 ?_
                  refine gm_vst C hW_462 hS_460 (1 + f_22) (nI_clamp (by omega)) (vp_in_nI (show 1 + f_22 < 128 by omega) (by decide)) dX8_charges_98 (fun H_465 locs_466 hW_467 hS_468 => ?_)
                  obtain ⟨w_469, ew_469⟩ : ∃ Z9, Z9 = upd (X.1 16) (1 + f_22) ((X.1 16 (1 + f_22)) + mass) := ⟨_, rfl⟩
                  have hW_470 : Wd G (setRow (setRow (setRow X 15 (X.1 15)) 16 w_469) 20 w_461) H_465 := Wd.cast (by rw [ew_469]; exact (st_in (by decide) st_out)) hW_467
                  refine lv_aload_n hx hb dX8_charges_99 rfl (lv_at hl_464 1 rfl) ?_
                  refine lv_iload_n hx hb dX8_charges_100 rfl (lv_at hl_464 2 rfl) ?_
                  refine lv_bipush (v := 20) hx hb dX8_charges_101 (by decide) ?_
                  refine g_calli (va_runV (As := [.int (nI f_10), .int 20]) (rest := []) C.1 (cX8_feeds_ok l G (setRow (setRow (setRow X 15 (X.1 15)) 16 w_469) 20 w_461) f_10 20 (show f_10 < 3 by omega) (nz_feed (s := k0 + k0 + 0 + 0) (hm.1 f_10 (by omega)) (fun j hj => by rw [ew_469]; exact pk_un (by omega)) ⟨k0, k0, 0, 0, (by subst ew_469; subst ew_461; subst ew_452; subst ew_443; subst ew_311; exact hk03), (by subst ew_469; subst ew_461; subst ew_452; subst ew_443; subst ew_311; exact hk03), (by subst ew_469; subst ew_461; subst ew_452; subst ew_443; subst ew_311; rfl), (by subst ew_469; subst ew_461; subst ew_452; subst ew_443; subst ew_311; rfl), rfl⟩ (by omega))) (cwV 2 C.1.2.2.2.2 (gV qw_1579 qw_1581 qw_33 qw_81 qw_1582) rfl rfl rfl (by decide +kernel) ⟨Nat.le_of_ble_eq_true rfl, Nat.le_of_ble_eq_true rfl⟩) (g_rModel C hW_470 hS_468 [.int (nI f_10), .int 20]) rfl rfl hl_464.1 rfl (lv_room (Nat.le_of_ble_eq_true rfl)) dX8_charges_103 ⟨Nat.zero_le _, Nat.zero_le _⟩) hS_468 (fun r_472 Y_473 H_474 locs_475 hW_476 hS_477 h_471 => ?_)
                  obtain ⟨h_478, h_471⟩ := h_471
                  replace h_478 : r_472 = (oM_feeds w_469 w_461 f_10 20).1 := h_478
                  subst h_478
                  replace h_471 : Y_473 = setRow (setRow (setRow (setRow X 15 (X.1 15)) 16 w_469) 20 w_461) 16 ((oM_feeds w_469 w_461 f_10 20).2) := h_471
                  obtain ⟨w_479, ew_479⟩ : ∃ Z9, Z9 = (oM_feeds w_469 w_461 f_10 20).2 := ⟨_, rfl⟩
                  have qqw_479 : Y_473 = setRow (setRow (setRow (setRow X 15 (X.1 15)) 16 w_469) 20 w_461) 16 w_479 := by rw [h_471, ew_479]
                  have hW_480 : Wd G (setRow (setRow (setRow X 15 (X.1 15)) 16 w_479) 20 w_461) H_474 := Wd.cast ((qqw_479).trans (congrArg (fun Z9 => Z9) (sr_in (by decide) sr_out))) hW_476
                  exact g_iret C hr hlk hW_480 hS_477 dX8_charges_106 (by subst ew_479; subst ew_469; subst ew_461; subst ew_452; subst ew_443; subst ew_311; exact ⟨(by first | rfl | (simp only [oM_charges, clf (show f_10 < 2 ^ 31 by omega), clf (show f_22 < 2 ^ 31 by omega), b_9, b_11, b_31, b_48, eq_true b_51, eq_true b_315, b_447, b_456, if_true, if_false, chP]; first | done | rfl)), (by first | rfl | (simp only [oM_charges, clf (show f_10 < 2 ^ 31 by omega), clf (show f_22 < 2 ^ 31 by omega), b_9, b_11, b_31, b_48, eq_true b_51, eq_true b_315, b_447, b_456, if_true, if_false, chP]; first | done | rfl))⟩)
                · have fb_456 : 3 = f_22 := (nI_eq (a := 3) (b := f_22) (by omega) (by omega)).mp b_456
                  refine lv_iload_n hx hb dX8_charges_75 rfl (lv_at hl_455 4 rfl) ?_
                  refine lv_goto (tgt := 80) hx hb dX8_charges_76 (by decide) ?_
                  refine gm_partst C hW_453 hS_451 3 (by decide) (vlit (by decide)) dX8_charges_80 (fun H_481 locs_482 hW_483 hS_484 => ?_)
                  obtain ⟨w_485, ew_485⟩ : ∃ Z9, Z9 = upd w_452 (3) mass := ⟨_, rfl⟩
                  have hW_486 : Wd G (setRow (setRow (setRow X 15 (X.1 15)) 16 (X.1 16)) 20 w_485) H_481 := Wd.cast (by rw [ew_485]; exact st_out) hW_483
                  refine lv_iinc (v := 4) (lv' := [(4, .int 4), (0, .ref (ad G 723)), (1, .int (nI f_10)), (2, .int (nI f_22)), (3, .int mass)]) hx hb dX8_charges_81 hl_455 (k := 0) rfl (by decide) (by decide) rfl (fun ls_487 hl_488 => ?_)
                  refine lv_goto (tgt := 57) hx hb dX8_charges_84 (by decide) ?_
                  refine lv_iload hx hb dX8_charges_57 (lv_at hl_488 0 rfl) ?_
                  refine lv_iconst (v := 4) hx hb dX8_charges_59 (by decide) ?_
                  refine lv_icmp_ge (tgt := 87) hx hb dX8_charges_60 (by decide) (fun _ => ?_) (fun h9 => absurd h9 (by decide))
                  refine lv_aload_n hx hb dX8_charges_87 rfl (lv_at hl_488 1 rfl) ?_
                  refine gM_v C hW_486 (hwc hwX8) (mc qw_1481) dX8_charges_88 ?_
                  refine lv_iconst (v := 1) hx hb dX8_charges_91 (by decide) ?_
                  refine lv_iload_n hx hb dX8_charges_92 rfl (lv_at hl_488 3 rfl) ?_
                  refine lv_iadd hx hb dX8_charges_93 ?_
                  refine g_top (y := nI (1 + f_22)) (nI_add 1 f_22) ?_
                  refine lv_dup2_11 hx hb dX8_charges_94 rfl rfl ?_
                  refine gm_vld C hW_486 (1 + f_22) (nI_clamp (by omega)) (vp_in_nI (show 1 + f_22 < 128 by omega) (by decide)) dX8_charges_95 ?_
                  refine g_top (y := X.1 16 (1 + f_22)) (congrFun (rd_in (by decide) rd_out) _) ?_
                  refine lv_iload_n hx hb dX8_charges_96 rfl (lv_at hl_488 4 rfl) ?_
                  refine lv_iadd hx hb dX8_charges_97 ?_
                  refine gm_vst C hW_486 hS_484 (1 + f_22) (nI_clamp (by omega)) (vp_in_nI (show 1 + f_22 < 128 by omega) (by decide)) dX8_charges_98 (fun H_489 locs_490 hW_491 hS_492 => ?_)
                  obtain ⟨w_493, ew_493⟩ : ∃ Z9, Z9 = upd (X.1 16) (1 + f_22) ((X.1 16 (1 + f_22)) + mass) := ⟨_, rfl⟩
                  have hW_494 : Wd G (setRow (setRow (setRow X 15 (X.1 15)) 16 w_493) 20 w_485) H_489 := Wd.cast (by rw [ew_493]; exact (st_in (by decide) st_out)) hW_491
                  refine lv_aload_n hx hb dX8_charges_99 rfl (lv_at hl_488 1 rfl) ?_
                  refine lv_iload_n hx hb dX8_charges_100 rfl (lv_at hl_488 2 rfl) ?_
                  refine lv_bipush (v := 20) hx hb dX8_charges_101 (by decide) ?_
                  refine g_calli (va_runV (As := [.int (nI f_10), .int 20]) (rest := []) C.1 (cX8_feeds_ok l G (setRow (setRow (setRow X 15 (X.1 15)) 16 w_493) 20 w_485) f_10 20 (show f_10 < 3 by omega) (nz_feed (s := k0 + k0 + 0 + k0) (hm.1 f_10 (by omega)) (fun j hj => by rw [ew_493]; exact pk_un (by omega)) ⟨k0, k0, 0, k0, (by subst ew_493; subst ew_485; subst ew_452; subst ew_443; subst ew_311; exact hk03), (by subst ew_493; subst ew_485; subst ew_452; subst ew_443; subst ew_311; exact hk03), (by subst ew_493; subst ew_485; subst ew_452; subst ew_443; subst ew_311; rfl), (by subst ew_493; subst ew_485; subst ew_452; subst ew_443; subst ew_311; exact hk03), rfl⟩ (by omega))) (cwV 2 C.1.2.2.2.2 (gV qw_1579 qw_1581 qw_33 qw_81 qw_1582) rfl rfl rfl (by decide +kernel) ⟨Nat.le_of_ble_eq_true rfl, Nat.le_of_ble_eq_true rfl⟩) (g_rModel C hW_494 hS_492 [.int (nI f_10), .int 20]) rfl rfl hl_488.1 rfl (lv_room (Nat.le_of_ble_eq_true rfl)) dX8_charges_103 ⟨Nat.zero_le _, Nat.zero_le _⟩) hS_492 (fun r_496 Y_497 H_498 locs_499 hW_500 hS_501 h_495 => ?_)
                  obtain ⟨h_502, h_495⟩ := h_495
                  replace h_502 : r_496 = (oM_feeds w_493 w_485 f_10 20).1 := h_502
                  subst h_502
                  replace h_495 : Y_497 = setRow (setRow (setRow (setRow X 15 (X.1 15)) 16 w_493) 20 w_485) 16 ((oM_feeds w_493 w_485 f_10 20).2) := h_495
                  obtain ⟨w_503, ew_503⟩ : ∃ Z9, Z9 = (oM_feeds w_493 w_485 f_10 20).2 := ⟨_, rfl⟩
                  have qqw_503 : Y_497 = setRow (setRow (setRow (setRow X 15 (X.1 15)) 16 w_493) 20 w_485) 16 w_503 := by rw [h_495, ew_503]
                  have hW_504 : Wd G (setRow (setRow (setRow X 15 (X.1 15)) 16 w_503) 20 w_485) H_498 := Wd.cast ((qqw_503).trans (congrArg (fun Z9 => Z9) (sr_in (by decide) sr_out))) hW_500
                  exact g_iret C hr hlk hW_504 hS_501 dX8_charges_106 (by subst ew_503; subst ew_493; subst ew_485; subst ew_452; subst ew_443; subst ew_311; exact ⟨(by first | rfl | (simp only [oM_charges, clf (show f_10 < 2 ^ 31 by omega), clf (show f_22 < 2 ^ 31 by omega), b_9, b_11, b_31, b_48, eq_true b_51, eq_true b_315, b_447, eq_true b_456, if_true, if_false, chP]; first | done | rfl)), (by first | rfl | (simp only [oM_charges, clf (show f_10 < 2 ^ 31 by omega), clf (show f_22 < 2 ^ 31 by omega), b_9, b_11, b_31, b_48, eq_true b_51, eq_true b_315, b_447, eq_true b_456, if_true, if_false, chP]; first | done | rfl))⟩)
              · have fb_447 : 2 = f_22 := (nI_eq (a := 2) (b := f_22) (by omega) (by omega)).mp b_447
                refine lv_iload_n hx hb dX8_charges_75 rfl (lv_at hl_446 4 rfl) ?_
                refine lv_goto (tgt := 80) hx hb dX8_charges_76 (by decide) ?_
                refine gm_partst C hW_444 hS_442 2 (by decide) (vlit (by decide)) dX8_charges_80 (fun H_505 locs_506 hW_507 hS_508 => ?_)
                obtain ⟨w_509, ew_509⟩ : ∃ Z9, Z9 = upd w_443 (2) mass := ⟨_, rfl⟩
                have hW_510 : Wd G (setRow (setRow (setRow X 15 (X.1 15)) 16 (X.1 16)) 20 w_509) H_505 := Wd.cast (by rw [ew_509]; exact st_out) hW_507
                refine lv_iinc (v := 3) (lv' := [(4, .int 3), (0, .ref (ad G 723)), (1, .int (nI f_10)), (2, .int (nI f_22)), (3, .int mass)]) hx hb dX8_charges_81 hl_446 (k := 0) rfl (by decide) (by decide) rfl (fun ls_511 hl_512 => ?_)
                refine lv_goto (tgt := 57) hx hb dX8_charges_84 (by decide) ?_
                refine lv_iload hx hb dX8_charges_57 (lv_at hl_512 0 rfl) ?_
                refine lv_iconst (v := 4) hx hb dX8_charges_59 (by decide) ?_
                refine lv_icmp_ge (tgt := 87) hx hb dX8_charges_60 (by decide) (fun h9 => absurd h9 (by decide)) (fun _ => ?_)
                refine lv_aload_n hx hb dX8_charges_63 rfl (lv_at hl_512 1 rfl) ?_
                refine gM_part C hW_510 (hwc hwX8) (mc qw_1485) dX8_charges_64 ?_
                refine lv_iload hx hb dX8_charges_67 (lv_at hl_512 0 rfl) ?_
                refine lv_iload hx hb dX8_charges_69 (lv_at hl_512 0 rfl) ?_
                refine lv_iload_n hx hb dX8_charges_71 rfl (lv_at hl_512 3 rfl) ?_
                refine lv_icmp_ne (tgt := 79) hx hb dX8_charges_72 (by decide) (fun b_513 => ?_) (fun b_513 => ?_)
                · have fb_513 : ¬ 3 = f_22 := fun q9 => b_513 ((nI_eq (a := 3) (b := f_22) (by omega) (by omega)).mpr q9)
                  refine lv_iconst (v := 0) hx hb dX8_charges_79 (by decide) ?_
                  refine gm_partst C hW_510 hS_508 3 (by decide) (vlit (by decide)) dX8_charges_80 (fun H_514 locs_515 hW_516 hS_517 => ?_)
                  obtain ⟨w_518, ew_518⟩ : ∃ Z9, Z9 = upd w_509 (3) 0 := ⟨_, rfl⟩
                  have hW_519 : Wd G (setRow (setRow (setRow X 15 (X.1 15)) 16 (X.1 16)) 20 w_518) H_514 := Wd.cast (by rw [ew_518]; exact st_out) hW_516
                  refine lv_iinc (v := 4) (lv' := [(4, .int 4), (0, .ref (ad G 723)), (1, .int (nI f_10)), (2, .int (nI f_22)), (3, .int mass)]) hx hb dX8_charges_81 hl_512 (k := 0) rfl (by decide) (by decide) rfl (fun ls_520 hl_521 => ?_)
                  refine lv_goto (tgt := 57) hx hb dX8_charges_84 (by decide) ?_
                  refine lv_iload hx hb dX8_charges_57 (lv_at hl_521 0 rfl) ?_
                  refine lv_iconst (v := 4) hx hb dX8_charges_59 (by decide) ?_
                  refine lv_icmp_ge (tgt := 87) hx hb dX8_charges_60 (by decide) (fun _ => ?_) (fun h9 => absurd h9 (by decide))
                  refine lv_aload_n hx hb dX8_charges_87 rfl (lv_at hl_521 1 rfl) ?_
                  refine gM_v C hW_519 (hwc hwX8) (mc qw_1481) dX8_charges_88 ?_
                  refine lv_iconst (v := 1) hx hb dX8_charges_91 (by decide) ?_
                  refine lv_iload_n hx hb dX8_charges_92 rfl (lv_at hl_521 3 rfl) ?_
                  refine lv_iadd hx hb dX8_charges_93 ?_
                  refine g_top (y := nI (1 + f_22)) (nI_add 1 f_22) ?_
                  refine lv_dup2_11 hx hb dX8_charges_94 rfl rfl ?_
                  refine gm_vld C hW_519 (1 + f_22) (nI_clamp (by omega)) (vp_in_nI (show 1 + f_22 < 128 by omega) (by decide)) dX8_charges_95 ?_
                  refine g_top (y := X.1 16 (1 + f_22)) (congrFun (rd_in (by decide) rd_out) _) ?_
                  refine lv_iload_n hx hb dX8_charges_96 rfl (lv_at hl_521 4 rfl) ?_
                  refine lv_iadd hx hb dX8_charges_97 ?_
                  refine gm_vst C hW_519 hS_517 (1 + f_22) (nI_clamp (by omega)) (vp_in_nI (show 1 + f_22 < 128 by omega) (by decide)) dX8_charges_98 (fun H_522 locs_523 hW_524 hS_525 => ?_)
                  obtain ⟨w_526, ew_526⟩ : ∃ Z9, Z9 = upd (X.1 16) (1 + f_22) ((X.1 16 (1 + f_22)) + mass) := ⟨_, rfl⟩
                  have hW_527 : Wd G (setRow (setRow (setRow X 15 (X.1 15)) 16 w_526) 20 w_518) H_522 := Wd.cast (by rw [ew_526]; exact (st_in (by decide) st_out)) hW_524
                  refine lv_aload_n hx hb dX8_charges_99 rfl (lv_at hl_521 1 rfl) ?_
                  refine lv_iload_n hx hb dX8_charges_100 rfl (lv_at hl_521 2 rfl) ?_
                  refine lv_bipush (v := 20) hx hb dX8_charges_101 (by decide) ?_
                  refine g_calli (va_runV (As := [.int (nI f_10), .int 20]) (rest := []) C.1 (cX8_feeds_ok l G (setRow (setRow (setRow X 15 (X.1 15)) 16 w_526) 20 w_518) f_10 20 (show f_10 < 3 by omega) (nz_feed (s := k0 + k0 + k0 + 0) (hm.1 f_10 (by omega)) (fun j hj => by rw [ew_526]; exact pk_un (by omega)) ⟨k0, k0, k0, 0, (by subst ew_526; subst ew_518; subst ew_509; subst ew_443; subst ew_311; exact hk03), (by subst ew_526; subst ew_518; subst ew_509; subst ew_443; subst ew_311; exact hk03), (by subst ew_526; subst ew_518; subst ew_509; subst ew_443; subst ew_311; exact hk03), (by subst ew_526; subst ew_518; subst ew_509; subst ew_443; subst ew_311; rfl), rfl⟩ (by omega))) (cwV 2 C.1.2.2.2.2 (gV qw_1579 qw_1581 qw_33 qw_81 qw_1582) rfl rfl rfl (by decide +kernel) ⟨Nat.le_of_ble_eq_true rfl, Nat.le_of_ble_eq_true rfl⟩) (g_rModel C hW_527 hS_525 [.int (nI f_10), .int 20]) rfl rfl hl_521.1 rfl (lv_room (Nat.le_of_ble_eq_true rfl)) dX8_charges_103 ⟨Nat.zero_le _, Nat.zero_le _⟩) hS_525 (fun r_529 Y_530 H_531 locs_532 hW_533 hS_534 h_528 => ?_)
                  obtain ⟨h_535, h_528⟩ := h_528
                  replace h_535 : r_529 = (oM_feeds w_526 w_518 f_10 20).1 := h_535
                  subst h_535
                  replace h_528 : Y_530 = setRow (setRow (setRow (setRow X 15 (X.1 15)) 16 w_526) 20 w_518) 16 ((oM_feeds w_526 w_518 f_10 20).2) := h_528
                  obtain ⟨w_536, ew_536⟩ : ∃ Z9, Z9 = (oM_feeds w_526 w_518 f_10 20).2 := ⟨_, rfl⟩
                  have qqw_536 : Y_530 = setRow (setRow (setRow (setRow X 15 (X.1 15)) 16 w_526) 20 w_518) 16 w_536 := by rw [h_528, ew_536]
                  have hW_537 : Wd G (setRow (setRow (setRow X 15 (X.1 15)) 16 w_536) 20 w_518) H_531 := Wd.cast ((qqw_536).trans (congrArg (fun Z9 => Z9) (sr_in (by decide) sr_out))) hW_533
                  exact g_iret C hr hlk hW_537 hS_534 dX8_charges_106 (by subst ew_536; subst ew_526; subst ew_518; subst ew_509; subst ew_443; subst ew_311; exact ⟨(by first | rfl | (simp only [oM_charges, clf (show f_10 < 2 ^ 31 by omega), clf (show f_22 < 2 ^ 31 by omega), b_9, b_11, b_31, b_48, eq_true b_51, eq_true b_315, eq_true b_447, b_513, if_true, if_false, chP]; first | done | rfl)), (by first | rfl | (simp only [oM_charges, clf (show f_10 < 2 ^ 31 by omega), clf (show f_22 < 2 ^ 31 by omega), b_9, b_11, b_31, b_48, eq_true b_51, eq_true b_315, eq_true b_447, b_513, if_true, if_false, chP]; first | done | rfl))⟩)
                · have fb_513 : 3 = f_22 := (nI_eq (a := 3) (b := f_22) (by omega) (by omega)).mp b_513
                  refine lv_iload_n hx hb dX8_charges_75 rfl (lv_at hl_512 4 rfl) ?_
                  refine lv_goto (tgt := 80) hx hb dX8_charges_76 (by decide) ?_
                  refine gm_partst C hW_510 hS_508 3 (by decide) (vlit (by decide)) dX8_charges_80 (fun H_538 locs_539 hW_540 hS_541 => ?_)
                  obtain ⟨w_542, ew_542⟩ : ∃ Z9, Z9 = upd w_509 (3) mass := ⟨_, rfl⟩
                  have hW_543 : Wd G (setRow (setRow (setRow X 15 (X.1 15)) 16 (X.1 16)) 20 w_542) H_538 := Wd.cast (by rw [ew_542]; exact st_out) hW_540
                  refine lv_iinc (v := 4) (lv' := [(4, .int 4), (0, .ref (ad G 723)), (1, .int (nI f_10)), (2, .int (nI f_22)), (3, .int mass)]) hx hb dX8_charges_81 hl_512 (k := 0) rfl (by decide) (by decide) rfl (fun ls_544 hl_545 => ?_)
                  refine lv_goto (tgt := 57) hx hb dX8_charges_84 (by decide) ?_
                  refine lv_iload hx hb dX8_charges_57 (lv_at hl_545 0 rfl) ?_
                  refine lv_iconst (v := 4) hx hb dX8_charges_59 (by decide) ?_
                  refine lv_icmp_ge (tgt := 87) hx hb dX8_charges_60 (by decide) (fun _ => ?_) (fun h9 => absurd h9 (by decide))
                  refine lv_aload_n hx hb dX8_charges_87 rfl (lv_at hl_545 1 rfl) ?_
                  refine gM_v C hW_543 (hwc hwX8) (mc qw_1481) dX8_charges_88 ?_
                  refine lv_iconst (v := 1) hx hb dX8_charges_91 (by decide) ?_
                  refine lv_iload_n hx hb dX8_charges_92 rfl (lv_at hl_545 3 rfl) ?_
                  refine lv_iadd hx hb dX8_charges_93 ?_
                  refine g_top (y := nI (1 + f_22)) (nI_add 1 f_22) ?_
                  refine lv_dup2_11 hx hb dX8_charges_94 rfl rfl ?_
                  refine gm_vld C hW_543 (1 + f_22) (nI_clamp (by omega)) (vp_in_nI (show 1 + f_22 < 128 by omega) (by decide)) dX8_charges_95 ?_
                  refine g_top (y := X.1 16 (1 + f_22)) (congrFun (rd_in (by decide) rd_out) _) ?_
                  refine lv_iload_n hx hb dX8_charges_96 rfl (lv_at hl_545 4 rfl) ?_
                  refine lv_iadd hx hb dX8_charges_97 ?_
                  refine gm_vst C hW_543 hS_541 (1 + f_22) (nI_clamp (by omega)) (vp_in_nI (show 1 + f_22 < 128 by omega) (by decide)) dX8_charges_98 (fun H_546 locs_547 hW_548 hS_549 => ?_)
                  obtain ⟨w_550, ew_550⟩ : ∃ Z9, Z9 = upd (X.1 16) (1 + f_22) ((X.1 16 (1 + f_22)) + mass) := ⟨_, rfl⟩
                  have hW_551 : Wd G (setRow (setRow (setRow X 15 (X.1 15)) 16 w_550) 20 w_542) H_546 := Wd.cast (by rw [ew_550]; exact (st_in (by decide) st_out)) hW_548
                  refine lv_aload_n hx hb dX8_charges_99 rfl (lv_at hl_545 1 rfl) ?_
                  refine lv_iload_n hx hb dX8_charges_100 rfl (lv_at hl_545 2 rfl) ?_
                  refine lv_bipush (v := 20) hx hb dX8_charges_101 (by decide) ?_
                  refine g_calli (va_runV (As := [.int (nI f_10), .int 20]) (rest := []) C.1 (cX8_feeds_ok l G (setRow (setRow (setRow X 15 (X.1 15)) 16 w_550) 20 w_542) f_10 20 (show f_10 < 3 by omega) (nz_feed (s := k0 + k0 + k0 + k0) (hm.1 f_10 (by omega)) (fun j hj => by rw [ew_550]; exact pk_un (by omega)) ⟨k0, k0, k0, k0, (by subst ew_550; subst ew_542; subst ew_509; subst ew_443; subst ew_311; exact hk03), (by subst ew_550; subst ew_542; subst ew_509; subst ew_443; subst ew_311; exact hk03), (by subst ew_550; subst ew_542; subst ew_509; subst ew_443; subst ew_311; exact hk03), (by subst ew_550; subst ew_542; subst ew_509; subst ew_443; subst ew_311; exact hk03), rfl⟩ (by omega))) (cwV 2 C.1.2.2.2.2 (gV qw_1579 qw_1581 qw_33 qw_81 qw_1582) rfl rfl rfl (by decide +kernel) ⟨Nat.le_of_ble_eq_true rfl, Nat.le_of_ble_eq_true rfl⟩) (g_rModel C hW_551 hS_549 [.int (nI f_10), .int 20]) rfl rfl hl_545.1 rfl (lv_room (Nat.le_of_ble_eq_true rfl)) dX8_charges_103 ⟨Nat.zero_le _, Nat.zero_le _⟩) hS_549 (fun r_553 Y_554 H_555 locs_556 hW_557 hS_558 h_552 => ?_)
                  obtain ⟨h_559, h_552⟩ := h_552
                  replace h_559 : r_553 = (oM_feeds w_550 w_542 f_10 20).1 := h_559
                  subst h_559
                  replace h_552 : Y_554 = setRow (setRow (setRow (setRow X 15 (X.1 15)) 16 w_550) 20 w_542) 16 ((oM_feeds w_550 w_542 f_10 20).2) := h_552
                  obtain ⟨w_560, ew_560⟩ : ∃ Z9, Z9 = (oM_feeds w_550 w_542 f_10 20).2 := ⟨_, rfl⟩
                  have qqw_560 : Y_554 = setRow (setRow (setRow (setRow X 15 (X.1 15)) 16 w_550) 20 w_542) 16 w_560 := by rw [h_552, ew_560]
                  have hW_561 : Wd G (setRow (setRow (setRow X 15 (X.1 15)) 16 w_560) 20 w_542) H_555 := Wd.cast ((qqw_560).trans (congrArg (fun Z9 => Z9) (sr_in (by decide) sr_out))) hW_557
                  exact g_iret C hr hlk hW_561 hS_558 dX8_charges_106 (by subst ew_560; subst ew_550; subst ew_542; subst ew_509; subst ew_443; subst ew_311; exact ⟨(by first | rfl | (simp only [oM_charges, clf (show f_10 < 2 ^ 31 by omega), clf (show f_22 < 2 ^ 31 by omega), b_9, b_11, b_31, b_48, eq_true b_51, eq_true b_315, eq_true b_447, eq_true b_513, if_true, if_false, chP]; first | done | rfl)), (by first | rfl | (simp only [oM_charges, clf (show f_10 < 2 ^ 31 by omega), clf (show f_22 < 2 ^ 31 by omega), b_9, b_11, b_31, b_48, eq_true b_51, eq_true b_315, eq_true b_447, eq_true b_513, if_true, if_false, chP]; first | done | rfl))⟩)
        · refine lv_aload_n hx hb dX8_charges_48 rfl (lv_at hl 0 rfl) ?_
          refine lv_iconst (v := 3) hx hb dX8_charges_49 (by decide) ?_
          refine g_calli (va_runV (As := [.int 3]) (rest := []) C.1 (cX8_fail_ok l G (setRow (setRow (setRow X 15 (X.1 15)) 16 (X.1 16)) 20 (X.1 20)) 3) (cwV 1 C.1.2.2.2.2 (gV qw_1571 qw_1573 qw_31 qw_81 qw_1574) rfl rfl rfl (by decide +kernel) ⟨Nat.le_of_ble_eq_true rfl, Nat.le_of_ble_eq_true rfl⟩) (g_rModel C hW_45 hS_46 [.int 3]) rfl rfl hl.1 rfl (lv_room (Nat.le_of_ble_eq_true rfl)) dX8_charges_50 ⟨Nat.zero_le _, Nat.zero_le _⟩) hS_46 (fun r_563 Y_564 H_565 locs_566 hW_567 hS_568 h_562 => ?_)
          obtain ⟨h_569, h_562⟩ := h_562
          replace h_569 : r_563 = (oM_fail (X.1 15) 3).1 := h_569
          subst h_569
          replace h_562 : Y_564 = setRow (setRow (setRow (setRow X 15 (X.1 15)) 16 (X.1 16)) 20 (X.1 20)) 15 ((oM_fail (X.1 15) 3).2) := h_562
          obtain ⟨w_570, ew_570⟩ : ∃ Z9, Z9 = (oM_fail (X.1 15) 3).2 := ⟨_, rfl⟩
          have qqw_570 : Y_564 = setRow (setRow (setRow (setRow X 15 (X.1 15)) 16 (X.1 16)) 20 (X.1 20)) 15 w_570 := by rw [h_562, ew_570]
          have hW_571 : Wd G (setRow (setRow (setRow X 15 w_570) 16 (X.1 16)) 20 (X.1 20)) H_565 := Wd.cast ((qqw_570).trans (congrArg (fun Z9 => Z9) (sr_in (by decide) (sr_in (by decide) sr_out)))) hW_567
          exact g_iret C hr hlk hW_571 hS_568 dX8_charges_53 (by subst ew_570; exact ⟨(by first | rfl | (simp only [oM_charges, clf (show f_10 < 2 ^ 31 by omega), clf (show f_22 < 2 ^ 31 by omega), b_9, b_11, b_31, b_48, if_true, if_false, chP]; first | done | rfl)), (by first | rfl | (simp only [oM_charges, clf (show f_10 < 2 ^ 31 by omega), clf (show f_22 < 2 ^ 31 by omega), b_9, b_11, b_31, b_48, if_true, if_false, chP]; first | done | rfl))⟩)
      · refine lv_aload_n hx hb dX8_charges_27 rfl (lv_at hl 0 rfl) ?_
        refine lv_iconst (v := 2) hx hb dX8_charges_28 (by decide) ?_
        refine g_calli (va_runV (As := [.int 2]) (rest := []) C.1 (cX8_fail_ok l G (setRow (setRow (setRow X 15 (X.1 15)) 16 (X.1 16)) 20 (X.1 20)) 2) (cwV 1 C.1.2.2.2.2 (gV qw_1571 qw_1573 qw_31 qw_81 qw_1574) rfl rfl rfl (by decide +kernel) ⟨Nat.le_of_ble_eq_true rfl, Nat.le_of_ble_eq_true rfl⟩) (g_rModel C hW_28 hS_29 [.int 2]) rfl rfl hl.1 rfl (lv_room (Nat.le_of_ble_eq_true rfl)) dX8_charges_29 ⟨Nat.zero_le _, Nat.zero_le _⟩) hS_29 (fun r_573 Y_574 H_575 locs_576 hW_577 hS_578 h_572 => ?_)
        obtain ⟨h_579, h_572⟩ := h_572
        replace h_579 : r_573 = (oM_fail (X.1 15) 2).1 := h_579
        subst h_579
        replace h_572 : Y_574 = setRow (setRow (setRow (setRow X 15 (X.1 15)) 16 (X.1 16)) 20 (X.1 20)) 15 ((oM_fail (X.1 15) 2).2) := h_572
        obtain ⟨w_580, ew_580⟩ : ∃ Z9, Z9 = (oM_fail (X.1 15) 2).2 := ⟨_, rfl⟩
        have qqw_580 : Y_574 = setRow (setRow (setRow (setRow X 15 (X.1 15)) 16 (X.1 16)) 20 (X.1 20)) 15 w_580 := by rw [h_572, ew_580]
        have hW_581 : Wd G (setRow (setRow (setRow X 15 w_580) 16 (X.1 16)) 20 (X.1 20)) H_575 := Wd.cast ((qqw_580).trans (congrArg (fun Z9 => Z9) (sr_in (by decide) (sr_in (by decide) sr_out)))) hW_577
        exact g_iret C hr hlk hW_581 hS_578 dX8_charges_32 (by subst ew_580; exact ⟨(by first | rfl | (simp only [oM_charges, clf (show f_10 < 2 ^ 31 by omega), clf (show f_22 < 2 ^ 31 by omega), b_9, b_11, eq_true b_31, if_true, if_false, chP]; first | done | rfl)), (by first | rfl | (simp only [oM_charges, clf (show f_10 < 2 ^ 31 by omega), clf (show f_22 < 2 ^ 31 by omega), b_9, b_11, eq_true b_31, if_true, if_false, chP]; first | done | rfl))⟩)
  · refine lv_aload_n hx hb dX8_charges_7 rfl (lv_at hl 0 rfl) ?_
    refine lv_iconst (v := 1) hx hb dX8_charges_8 (by decide) ?_
    refine g_calli (va_runV (As := [.int 1]) (rest := []) C.1 (cX8_fail_ok l G (setRow (setRow (setRow X 15 (X.1 15)) 16 (X.1 16)) 20 (X.1 20)) 1) (cwV 1 C.1.2.2.2.2 (gV qw_1571 qw_1573 qw_31 qw_81 qw_1574) rfl rfl rfl (by decide +kernel) ⟨Nat.le_of_ble_eq_true rfl, Nat.le_of_ble_eq_true rfl⟩) (g_rModel C hW_6 hS_7 [.int 1]) rfl rfl hl.1 rfl (lv_room (Nat.le_of_ble_eq_true rfl)) dX8_charges_9 ⟨Nat.zero_le _, Nat.zero_le _⟩) hS_7 (fun r_583 Y_584 H_585 locs_586 hW_587 hS_588 h_582 => ?_)
    obtain ⟨h_589, h_582⟩ := h_582
    replace h_589 : r_583 = (oM_fail (X.1 15) 1).1 := h_589
    subst h_589
    replace h_582 : Y_584 = setRow (setRow (setRow (setRow X 15 (X.1 15)) 16 (X.1 16)) 20 (X.1 20)) 15 ((oM_fail (X.1 15) 1).2) := h_582
    obtain ⟨w_590, ew_590⟩ : ∃ Z9, Z9 = (oM_fail (X.1 15) 1).2 := ⟨_, rfl⟩
    have qqw_590 : Y_584 = setRow (setRow (setRow (setRow X 15 (X.1 15)) 16 (X.1 16)) 20 (X.1 20)) 15 w_590 := by rw [h_582, ew_590]
    have hW_591 : Wd G (setRow (setRow (setRow X 15 w_590) 16 (X.1 16)) 20 (X.1 20)) H_585 := Wd.cast ((qqw_590).trans (congrArg (fun Z9 => Z9) (sr_in (by decide) (sr_in (by decide) sr_out)))) hW_587
    exact g_iret C hr hlk hW_591 hS_588 dX8_charges_12 (by subst ew_590; exact ⟨(by first | rfl | (simp only [oM_charges, eq_true b_9, if_true, if_false, chP]; first | done | rfl)), (by first | rfl | (simp only [oM_charges, eq_true b_9, if_true, if_false, chP]; first | done | rfl))⟩)

def oM_fires (w15 : Nat → Int32) (w16 : Nat → Int32) (f : Int32) (level : Int32) : Int32 × ((Nat → Int32) × (Nat → Int32)) := if oM_isThree f = 0 then ((oM_fail (w15) 1).1, ((oM_fail (w15) 1).2), w16) else (if oM_isIn level 0 5 = 0 then ((oM_fail (w15) 2).1, ((oM_fail (w15) 2).2), w16) else ((w16 ((9 + 6 * f.toNatClampNeg) + 5)), w15, (upd (w16) ((9 + 6 * f.toNatClampNeg) + 5) level)))
set_option maxHeartbeats 4000000 in
set_option maxRecDepth 100000 in
theorem cX8_fires_ok (l : Launch) (G : GT) (X : St) (f : Int32) (level : Int32) : MetI l G yX8_fires (wsG yX8_fires cX8_fires 4 (some .int)) (rmz 2 42) [.ref (ad G 723), .int f, .int level] X (fun res Y => res = (oM_fires (X.1 15) (X.1 16) f level).1 ∧ Y = setRow (setRow (X) 15 ((oM_fires (X.1 15) (X.1 16) f level).2.1)) 16 ((oM_fires (X.1 15) (X.1 16) f level).2.2)) := by
  refine g_met (cc := cX8_fires) (maxL := 4) (ret := (some .int)) (by decide) rfl (Nat.le_of_ble_eq_true rfl) ?_
  intro p e s m below meth c ls C hr hlk hnm hW hl
  have hx := C.1.1
  have hb := C.1.2.1
  have hS : va_S (Ab G) s.heap s.heap [] := va_S.rf
  have hl : lv_has ls 4 [(0, .ref (ad G 723)), (1, .int f), (2, .int level)] := hl
  have hW : Wd G (setRow (setRow (X) 15 (X.1 15)) 16 (X.1 16)) s.heap := Wd.cast (((sr_same (X := setRow (X) 15 (X.1 15)) (r := 16) rfl).trans (sr_same (X := X) (r := 15) rfl))).symm hW
  refine lv_iload_n hx hb dX8_fires_0 rfl (lv_at hl 1 rfl) ?_
  refine g_calli (va_runS (As := [.int f]) (rest := []) C.1 (cX8_isThree_ok l G (setRow (setRow X 15 (X.1 15)) 16 (X.1 16)) f) (va_cwS 1 C.1.2.2.2.2 (gS qw_1565 qw_1566 qw_81 qw_1567) rfl rfl rfl (by decide +kernel) ⟨Nat.le_of_ble_eq_true rfl, Nat.le_of_ble_eq_true rfl⟩) (g_pre C hW hS [.int f]) rfl rfl hl.1 rfl (lv_room (Nat.le_of_ble_eq_true rfl)) dX8_fires_1 ⟨Nat.zero_le _, Nat.zero_le _⟩) hS (fun r_2 Y_3 H_4 locs_5 hW_6 hS_7 h_1 => ?_)
  obtain ⟨h_1, hy_8⟩ := h_1
  replace hy_8 := hy_8.symm
  subst hy_8
  replace h_1 : r_2 = oM_isThree f := h_1
  subst h_1
  refine lv_if_ne (tgt := 13) hx hb dX8_fires_4 (by decide) (fun b_9 => ?_) (fun b_9 => ?_)
  · obtain ⟨f_10, hf_10, rfl⟩ := three_in b_9
    refine lv_iload_n hx hb dX8_fires_13 rfl (lv_at hl 2 rfl) ?_
    refine lv_iconst (v := 0) hx hb dX8_fires_14 (by decide) ?_
    refine lv_iconst (v := 5) hx hb dX8_fires_15 (by decide) ?_
    refine g_calli (va_runS (As := [.int level, .int 0, .int 5]) (rest := []) C.1 (cX8_isIn_ok l G (setRow (setRow X 15 (X.1 15)) 16 (X.1 16)) level 0 5) (va_cwS 3 C.1.2.2.2.2 (gS qw_1568 qw_1569 qw_81 qw_1570) rfl rfl rfl (by decide +kernel) ⟨Nat.le_of_ble_eq_true rfl, Nat.le_of_ble_eq_true rfl⟩) (g_pre C hW_6 hS_7 [.int level, .int 0, .int 5]) rfl rfl hl.1 rfl (lv_room (Nat.le_of_ble_eq_true rfl)) dX8_fires_16 ⟨Nat.zero_le _, Nat.zero_le _⟩) hS_7 (fun r_12 Y_13 H_14 locs_15 hW_16 hS_17 h_11 => ?_)
    obtain ⟨h_11, hy_18⟩ := h_11
    replace hy_18 := hy_18.symm
    subst hy_18
    replace h_11 : r_12 = oM_isIn level 0 5 := h_11
    subst h_11
    refine lv_if_ne (tgt := 28) hx hb dX8_fires_19 (by decide) (fun b_19 => ?_) (fun b_19 => ?_)
    · refine lv_aload_n hx hb dX8_fires_28 rfl (lv_at hl 0 rfl) ?_
      refine gM_v C hW_16 (hwc hwX8) (mc qw_1481) dX8_fires_29 ?_
      refine lv_iload_n hx hb dX8_fires_32 rfl (lv_at hl 1 rfl) ?_
      refine g_calli (va_runS (As := [.int (nI f_10)]) (rest := [.ref (ad G 724)]) C.1 (cX8_furnace_ok l G (setRow (setRow X 15 (X.1 15)) 16 (X.1 16)) (nI f_10)) (va_cwS 1 C.1.2.2.2.2 (gS qw_1470 qw_1471 qw_81 qw_1472) rfl rfl rfl (by decide +kernel) ⟨Nat.le_of_ble_eq_true rfl, Nat.le_of_ble_eq_true rfl⟩) (g_pre C hW_16 hS_17 [.int (nI f_10)]) rfl rfl hl.1 rfl (lv_room (Nat.le_of_ble_eq_true rfl)) dX8_fires_33 ⟨Nat.zero_le _, Nat.zero_le _⟩) hS_17 (fun r_21 Y_22 H_23 locs_24 hW_25 hS_26 h_20 => ?_)
      obtain ⟨h_20, hy_27⟩ := h_20
      replace hy_27 := hy_27.symm
      subst hy_27
      replace h_20 : r_21 = oM_furnace (nI f_10) := h_20
      subst h_20
      refine g_top (y := nI (9 + 6 * f_10)) (at_furnace f_10) ?_
      refine lv_iconst (v := 5) hx hb dX8_fires_36 (by decide) ?_
      refine lv_iadd hx hb dX8_fires_37 ?_
      refine g_top (y := nI ((9 + 6 * f_10) + 5)) (nI_add (9 + 6 * f_10) 5) ?_
      refine gm_vld C hW_25 ((9 + 6 * f_10) + 5) (nI_clamp (by omega)) (vp_in_nI (show (9 + 6 * f_10) + 5 < 128 by omega) (by decide)) dX8_fires_38 ?_
      refine g_top (y := X.1 16 ((9 + 6 * f_10) + 5)) (congrFun rd_out _) ?_
      refine lv_topi (fun v_28 ev_28 => ?_)
      refine lv_istore_n (lv' := [(3, .int v_28), (0, .ref (ad G 723)), (1, .int (nI f_10)), (2, .int level)]) hx hb dX8_fires_39 rfl hl (by decide) rfl (fun ls_29 hl_30 => ?_)
      refine lv_aload_n hx hb dX8_fires_40 rfl (lv_at hl_30 1 rfl) ?_
      refine gM_v C hW_25 (hwc hwX8) (mc qw_1481) dX8_fires_41 ?_
      refine lv_iload_n hx hb dX8_fires_44 rfl (lv_at hl_30 2 rfl) ?_
      refine g_calli (va_runS (As := [.int (nI f_10)]) (rest := [.ref (ad G 724)]) C.1 (cX8_furnace_ok l G (setRow (setRow X 15 (X.1 15)) 16 (X.1 16)) (nI f_10)) (va_cwS 1 C.1.2.2.2.2 (gS qw_1470 qw_1471 qw_81 qw_1472) rfl rfl rfl (by decide +kernel) ⟨Nat.le_of_ble_eq_true rfl, Nat.le_of_ble_eq_true rfl⟩) (g_pre C hW_25 hS_26 [.int (nI f_10)]) rfl rfl hl_30.1 rfl (lv_room (Nat.le_of_ble_eq_true rfl)) dX8_fires_45 ⟨Nat.zero_le _, Nat.zero_le _⟩) hS_26 (fun r_32 Y_33 H_34 locs_35 hW_36 hS_37 h_31 => ?_)
      obtain ⟨h_31, hy_38⟩ := h_31
      replace hy_38 := hy_38.symm
      subst hy_38
      replace h_31 : r_32 = oM_furnace (nI f_10) := h_31
      subst h_31
      refine g_top (y := nI (9 + 6 * f_10)) (at_furnace f_10) ?_
      refine lv_iconst (v := 5) hx hb dX8_fires_48 (by decide) ?_
      refine lv_iadd hx hb dX8_fires_49 ?_
      refine g_top (y := nI ((9 + 6 * f_10) + 5)) (nI_add (9 + 6 * f_10) 5) ?_
      refine lv_iload_n hx hb dX8_fires_50 rfl (lv_at hl_30 3 rfl) ?_
      refine gm_vst C hW_36 hS_37 ((9 + 6 * f_10) + 5) (nI_clamp (by omega)) (vp_in_nI (show (9 + 6 * f_10) + 5 < 128 by omega) (by decide)) dX8_fires_51 (fun H_39 locs_40 hW_41 hS_42 => ?_)
      obtain ⟨w_43, ew_43⟩ : ∃ Z9, Z9 = upd (X.1 16) ((9 + 6 * f_10) + 5) level := ⟨_, rfl⟩
      have hW_44 : Wd G (setRow (setRow X 15 (X.1 15)) 16 w_43) H_39 := Wd.cast (by rw [ew_43]; exact st_out) hW_41
      refine lv_iload_n hx hb dX8_fires_52 rfl (lv_at hl_30 0 rfl) ?_
      exact g_iret C hr hlk hW_44 hS_42 dX8_fires_53 (by subst ew_43; subst ev_28; exact ⟨(by first | rfl | (simp only [oM_fires, clf (show f_10 < 2 ^ 31 by omega), b_9, b_19, if_true, if_false]; first | done | rfl)), (by first | rfl | (simp only [oM_fires, clf (show f_10 < 2 ^ 31 by omega), b_9, b_19, if_true, if_false]; first | done | rfl))⟩)
    · refine lv_aload_n hx hb dX8_fires_22 rfl (lv_at hl 0 rfl) ?_
      refine lv_iconst (v := 2) hx hb dX8_fires_23 (by decide) ?_
      refine g_calli (va_runV (As := [.int 2]) (rest := []) C.1 (cX8_fail_ok l G (setRow (setRow X 15 (X.1 15)) 16 (X.1 16)) 2) (cwV 1 C.1.2.2.2.2 (gV qw_1571 qw_1573 qw_31 qw_81 qw_1574) rfl rfl rfl (by decide +kernel) ⟨Nat.le_of_ble_eq_true rfl, Nat.le_of_ble_eq_true rfl⟩) (g_rModel C hW_16 hS_17 [.int 2]) rfl rfl hl.1 rfl (lv_room (Nat.le_of_ble_eq_true rfl)) dX8_fires_24 ⟨Nat.zero_le _, Nat.zero_le _⟩) hS_17 (fun r_46 Y_47 H_48 locs_49 hW_50 hS_51 h_45 => ?_)
      obtain ⟨h_52, h_45⟩ := h_45
      replace h_52 : r_46 = (oM_fail (X.1 15) 2).1 := h_52
      subst h_52
      replace h_45 : Y_47 = setRow (setRow (setRow X 15 (X.1 15)) 16 (X.1 16)) 15 ((oM_fail (X.1 15) 2).2) := h_45
      obtain ⟨w_53, ew_53⟩ : ∃ Z9, Z9 = (oM_fail (X.1 15) 2).2 := ⟨_, rfl⟩
      have qqw_53 : Y_47 = setRow (setRow (setRow X 15 (X.1 15)) 16 (X.1 16)) 15 w_53 := by rw [h_45, ew_53]
      have hW_54 : Wd G (setRow (setRow X 15 w_53) 16 (X.1 16)) H_48 := Wd.cast ((qqw_53).trans (congrArg (fun Z9 => Z9) (sr_in (by decide) sr_out))) hW_50
      exact g_iret C hr hlk hW_54 hS_51 dX8_fires_27 (by subst ew_53; exact ⟨(by first | rfl | (simp only [oM_fires, clf (show f_10 < 2 ^ 31 by omega), b_9, eq_true b_19, if_true, if_false]; first | done | rfl)), (by first | rfl | (simp only [oM_fires, clf (show f_10 < 2 ^ 31 by omega), b_9, eq_true b_19, if_true, if_false]; first | done | rfl))⟩)
  · refine lv_aload_n hx hb dX8_fires_7 rfl (lv_at hl 0 rfl) ?_
    refine lv_iconst (v := 1) hx hb dX8_fires_8 (by decide) ?_
    refine g_calli (va_runV (As := [.int 1]) (rest := []) C.1 (cX8_fail_ok l G (setRow (setRow X 15 (X.1 15)) 16 (X.1 16)) 1) (cwV 1 C.1.2.2.2.2 (gV qw_1571 qw_1573 qw_31 qw_81 qw_1574) rfl rfl rfl (by decide +kernel) ⟨Nat.le_of_ble_eq_true rfl, Nat.le_of_ble_eq_true rfl⟩) (g_rModel C hW_6 hS_7 [.int 1]) rfl rfl hl.1 rfl (lv_room (Nat.le_of_ble_eq_true rfl)) dX8_fires_9 ⟨Nat.zero_le _, Nat.zero_le _⟩) hS_7 (fun r_56 Y_57 H_58 locs_59 hW_60 hS_61 h_55 => ?_)
    obtain ⟨h_62, h_55⟩ := h_55
    replace h_62 : r_56 = (oM_fail (X.1 15) 1).1 := h_62
    subst h_62
    replace h_55 : Y_57 = setRow (setRow (setRow X 15 (X.1 15)) 16 (X.1 16)) 15 ((oM_fail (X.1 15) 1).2) := h_55
    obtain ⟨w_63, ew_63⟩ : ∃ Z9, Z9 = (oM_fail (X.1 15) 1).2 := ⟨_, rfl⟩
    have qqw_63 : Y_57 = setRow (setRow (setRow X 15 (X.1 15)) 16 (X.1 16)) 15 w_63 := by rw [h_55, ew_63]
    have hW_64 : Wd G (setRow (setRow X 15 w_63) 16 (X.1 16)) H_58 := Wd.cast ((qqw_63).trans (congrArg (fun Z9 => Z9) (sr_in (by decide) sr_out))) hW_60
    exact g_iret C hr hlk hW_64 hS_61 dX8_fires_12 (by subst ew_63; exact ⟨(by first | rfl | (simp only [oM_fires, eq_true b_9, if_true, if_false]; first | done | rfl)), (by first | rfl | (simp only [oM_fires, eq_true b_9, if_true, if_false]; first | done | rfl))⟩)

def oM_skims (w15 : Nat → Int32) (w16 : Nat → Int32) (w21 : Nat → Int32) (f : Int32) : Int32 × ((Nat → Int32) × (Nat → Int32)) := if oM_isThree f = 0 then ((oM_fail (w15) 1).1, ((oM_fail (w15) 1).2), w16) else (if (w16 ((9 + 6 * f.toNatClampNeg) + 3)) = 0 then ((oM_fail (w15) 2).1, ((oM_fail (w15) 2).2), w16) else (if oM_isFluid (w16) (w21) (9 + 6 * f.toNatClampNeg) = 0 then ((oM_fail (w15) 3).1, ((oM_fail (w15) 3).2), w16) else (if w16 ((9 + 6 * f.toNatClampNeg) + 1) ≤ w16 (9 + 6 * f.toNatClampNeg) then (if w16 ((9 + 6 * f.toNatClampNeg) + 2) ≤ w16 (9 + 6 * f.toNatClampNeg) then (if w16 (9 + 6 * f.toNatClampNeg) ≤ (w16 ((9 + 6 * f.toNatClampNeg) + 3)) / 4 then ((w16 ((9 + 6 * f.toNatClampNeg) + 3)) + (w16 (9 + 6 * f.toNatClampNeg)), w15, (upd (upd (upd (upd (w16) ((9 + 6 * f.toNatClampNeg) + 3) 0) (9 + 6 * f.toNatClampNeg) (((upd (w16) ((9 + 6 * f.toNatClampNeg) + 3) 0) (9 + 6 * f.toNatClampNeg)) - (w16 (9 + 6 * f.toNatClampNeg)))) (8) (((upd (upd (w16) ((9 + 6 * f.toNatClampNeg) + 3) 0) (9 + 6 * f.toNatClampNeg) (((upd (w16) ((9 + 6 * f.toNatClampNeg) + 3) 0) (9 + 6 * f.toNatClampNeg)) - (w16 (9 + 6 * f.toNatClampNeg)))) (8)) + (w16 ((9 + 6 * f.toNatClampNeg) + 3)))) (5) (((upd (upd (upd (w16) ((9 + 6 * f.toNatClampNeg) + 3) 0) (9 + 6 * f.toNatClampNeg) (((upd (w16) ((9 + 6 * f.toNatClampNeg) + 3) 0) (9 + 6 * f.toNatClampNeg)) - (w16 (9 + 6 * f.toNatClampNeg)))) (8) (((upd (upd (w16) ((9 + 6 * f.toNatClampNeg) + 3) 0) (9 + 6 * f.toNatClampNeg) (((upd (w16) ((9 + 6 * f.toNatClampNeg) + 3) 0) (9 + 6 * f.toNatClampNeg)) - (w16 (9 + 6 * f.toNatClampNeg)))) (8)) + (w16 ((9 + 6 * f.toNatClampNeg) + 3)))) (5)) + (w16 (9 + 6 * f.toNatClampNeg))))) else ((w16 ((9 + 6 * f.toNatClampNeg) + 3)) + ((w16 ((9 + 6 * f.toNatClampNeg) + 3)) / 4), w15, (upd (upd (upd (upd (w16) ((9 + 6 * f.toNatClampNeg) + 3) 0) (9 + 6 * f.toNatClampNeg) (((upd (w16) ((9 + 6 * f.toNatClampNeg) + 3) 0) (9 + 6 * f.toNatClampNeg)) - ((w16 ((9 + 6 * f.toNatClampNeg) + 3)) / 4))) (8) (((upd (upd (w16) ((9 + 6 * f.toNatClampNeg) + 3) 0) (9 + 6 * f.toNatClampNeg) (((upd (w16) ((9 + 6 * f.toNatClampNeg) + 3) 0) (9 + 6 * f.toNatClampNeg)) - ((w16 ((9 + 6 * f.toNatClampNeg) + 3)) / 4))) (8)) + (w16 ((9 + 6 * f.toNatClampNeg) + 3)))) (5) (((upd (upd (upd (w16) ((9 + 6 * f.toNatClampNeg) + 3) 0) (9 + 6 * f.toNatClampNeg) (((upd (w16) ((9 + 6 * f.toNatClampNeg) + 3) 0) (9 + 6 * f.toNatClampNeg)) - ((w16 ((9 + 6 * f.toNatClampNeg) + 3)) / 4))) (8) (((upd (upd (w16) ((9 + 6 * f.toNatClampNeg) + 3) 0) (9 + 6 * f.toNatClampNeg) (((upd (w16) ((9 + 6 * f.toNatClampNeg) + 3) 0) (9 + 6 * f.toNatClampNeg)) - ((w16 ((9 + 6 * f.toNatClampNeg) + 3)) / 4))) (8)) + (w16 ((9 + 6 * f.toNatClampNeg) + 3)))) (5)) + ((w16 ((9 + 6 * f.toNatClampNeg) + 3)) / 4))))) else (if w16 ((9 + 6 * f.toNatClampNeg) + 2) ≤ (w16 ((9 + 6 * f.toNatClampNeg) + 3)) / 4 then ((w16 ((9 + 6 * f.toNatClampNeg) + 3)) + (w16 ((9 + 6 * f.toNatClampNeg) + 2)), w15, (upd (upd (upd (upd (w16) ((9 + 6 * f.toNatClampNeg) + 3) 0) ((9 + 6 * f.toNatClampNeg) + 2) (((upd (w16) ((9 + 6 * f.toNatClampNeg) + 3) 0) ((9 + 6 * f.toNatClampNeg) + 2)) - (w16 ((9 + 6 * f.toNatClampNeg) + 2)))) (8) (((upd (upd (w16) ((9 + 6 * f.toNatClampNeg) + 3) 0) ((9 + 6 * f.toNatClampNeg) + 2) (((upd (w16) ((9 + 6 * f.toNatClampNeg) + 3) 0) ((9 + 6 * f.toNatClampNeg) + 2)) - (w16 ((9 + 6 * f.toNatClampNeg) + 2)))) (8)) + (w16 ((9 + 6 * f.toNatClampNeg) + 3)))) (7) (((upd (upd (upd (w16) ((9 + 6 * f.toNatClampNeg) + 3) 0) ((9 + 6 * f.toNatClampNeg) + 2) (((upd (w16) ((9 + 6 * f.toNatClampNeg) + 3) 0) ((9 + 6 * f.toNatClampNeg) + 2)) - (w16 ((9 + 6 * f.toNatClampNeg) + 2)))) (8) (((upd (upd (w16) ((9 + 6 * f.toNatClampNeg) + 3) 0) ((9 + 6 * f.toNatClampNeg) + 2) (((upd (w16) ((9 + 6 * f.toNatClampNeg) + 3) 0) ((9 + 6 * f.toNatClampNeg) + 2)) - (w16 ((9 + 6 * f.toNatClampNeg) + 2)))) (8)) + (w16 ((9 + 6 * f.toNatClampNeg) + 3)))) (7)) + (w16 ((9 + 6 * f.toNatClampNeg) + 2))))) else ((w16 ((9 + 6 * f.toNatClampNeg) + 3)) + ((w16 ((9 + 6 * f.toNatClampNeg) + 3)) / 4), w15, (upd (upd (upd (upd (w16) ((9 + 6 * f.toNatClampNeg) + 3) 0) ((9 + 6 * f.toNatClampNeg) + 2) (((upd (w16) ((9 + 6 * f.toNatClampNeg) + 3) 0) ((9 + 6 * f.toNatClampNeg) + 2)) - ((w16 ((9 + 6 * f.toNatClampNeg) + 3)) / 4))) (8) (((upd (upd (w16) ((9 + 6 * f.toNatClampNeg) + 3) 0) ((9 + 6 * f.toNatClampNeg) + 2) (((upd (w16) ((9 + 6 * f.toNatClampNeg) + 3) 0) ((9 + 6 * f.toNatClampNeg) + 2)) - ((w16 ((9 + 6 * f.toNatClampNeg) + 3)) / 4))) (8)) + (w16 ((9 + 6 * f.toNatClampNeg) + 3)))) (7) (((upd (upd (upd (w16) ((9 + 6 * f.toNatClampNeg) + 3) 0) ((9 + 6 * f.toNatClampNeg) + 2) (((upd (w16) ((9 + 6 * f.toNatClampNeg) + 3) 0) ((9 + 6 * f.toNatClampNeg) + 2)) - ((w16 ((9 + 6 * f.toNatClampNeg) + 3)) / 4))) (8) (((upd (upd (w16) ((9 + 6 * f.toNatClampNeg) + 3) 0) ((9 + 6 * f.toNatClampNeg) + 2) (((upd (w16) ((9 + 6 * f.toNatClampNeg) + 3) 0) ((9 + 6 * f.toNatClampNeg) + 2)) - ((w16 ((9 + 6 * f.toNatClampNeg) + 3)) / 4))) (8)) + (w16 ((9 + 6 * f.toNatClampNeg) + 3)))) (7)) + ((w16 ((9 + 6 * f.toNatClampNeg) + 3)) / 4)))))) else (if w16 ((9 + 6 * f.toNatClampNeg) + 2) ≤ w16 ((9 + 6 * f.toNatClampNeg) + 1) then (if w16 ((9 + 6 * f.toNatClampNeg) + 1) ≤ (w16 ((9 + 6 * f.toNatClampNeg) + 3)) / 4 then ((w16 ((9 + 6 * f.toNatClampNeg) + 3)) + (w16 ((9 + 6 * f.toNatClampNeg) + 1)), w15, (upd (upd (upd (upd (w16) ((9 + 6 * f.toNatClampNeg) + 3) 0) ((9 + 6 * f.toNatClampNeg) + 1) (((upd (w16) ((9 + 6 * f.toNatClampNeg) + 3) 0) ((9 + 6 * f.toNatClampNeg) + 1)) - (w16 ((9 + 6 * f.toNatClampNeg) + 1)))) (8) (((upd (upd (w16) ((9 + 6 * f.toNatClampNeg) + 3) 0) ((9 + 6 * f.toNatClampNeg) + 1) (((upd (w16) ((9 + 6 * f.toNatClampNeg) + 3) 0) ((9 + 6 * f.toNatClampNeg) + 1)) - (w16 ((9 + 6 * f.toNatClampNeg) + 1)))) (8)) + (w16 ((9 + 6 * f.toNatClampNeg) + 3)))) (6) (((upd (upd (upd (w16) ((9 + 6 * f.toNatClampNeg) + 3) 0) ((9 + 6 * f.toNatClampNeg) + 1) (((upd (w16) ((9 + 6 * f.toNatClampNeg) + 3) 0) ((9 + 6 * f.toNatClampNeg) + 1)) - (w16 ((9 + 6 * f.toNatClampNeg) + 1)))) (8) (((upd (upd (w16) ((9 + 6 * f.toNatClampNeg) + 3) 0) ((9 + 6 * f.toNatClampNeg) + 1) (((upd (w16) ((9 + 6 * f.toNatClampNeg) + 3) 0) ((9 + 6 * f.toNatClampNeg) + 1)) - (w16 ((9 + 6 * f.toNatClampNeg) + 1)))) (8)) + (w16 ((9 + 6 * f.toNatClampNeg) + 3)))) (6)) + (w16 ((9 + 6 * f.toNatClampNeg) + 1))))) else ((w16 ((9 + 6 * f.toNatClampNeg) + 3)) + ((w16 ((9 + 6 * f.toNatClampNeg) + 3)) / 4), w15, (upd (upd (upd (upd (w16) ((9 + 6 * f.toNatClampNeg) + 3) 0) ((9 + 6 * f.toNatClampNeg) + 1) (((upd (w16) ((9 + 6 * f.toNatClampNeg) + 3) 0) ((9 + 6 * f.toNatClampNeg) + 1)) - ((w16 ((9 + 6 * f.toNatClampNeg) + 3)) / 4))) (8) (((upd (upd (w16) ((9 + 6 * f.toNatClampNeg) + 3) 0) ((9 + 6 * f.toNatClampNeg) + 1) (((upd (w16) ((9 + 6 * f.toNatClampNeg) + 3) 0) ((9 + 6 * f.toNatClampNeg) + 1)) - ((w16 ((9 + 6 * f.toNatClampNeg) + 3)) / 4))) (8)) + (w16 ((9 + 6 * f.toNatClampNeg) + 3)))) (6) (((upd (upd (upd (w16) ((9 + 6 * f.toNatClampNeg) + 3) 0) ((9 + 6 * f.toNatClampNeg) + 1) (((upd (w16) ((9 + 6 * f.toNatClampNeg) + 3) 0) ((9 + 6 * f.toNatClampNeg) + 1)) - ((w16 ((9 + 6 * f.toNatClampNeg) + 3)) / 4))) (8) (((upd (upd (w16) ((9 + 6 * f.toNatClampNeg) + 3) 0) ((9 + 6 * f.toNatClampNeg) + 1) (((upd (w16) ((9 + 6 * f.toNatClampNeg) + 3) 0) ((9 + 6 * f.toNatClampNeg) + 1)) - ((w16 ((9 + 6 * f.toNatClampNeg) + 3)) / 4))) (8)) + (w16 ((9 + 6 * f.toNatClampNeg) + 3)))) (6)) + ((w16 ((9 + 6 * f.toNatClampNeg) + 3)) / 4))))) else (if w16 ((9 + 6 * f.toNatClampNeg) + 2) ≤ (w16 ((9 + 6 * f.toNatClampNeg) + 3)) / 4 then ((w16 ((9 + 6 * f.toNatClampNeg) + 3)) + (w16 ((9 + 6 * f.toNatClampNeg) + 2)), w15, (upd (upd (upd (upd (w16) ((9 + 6 * f.toNatClampNeg) + 3) 0) ((9 + 6 * f.toNatClampNeg) + 2) (((upd (w16) ((9 + 6 * f.toNatClampNeg) + 3) 0) ((9 + 6 * f.toNatClampNeg) + 2)) - (w16 ((9 + 6 * f.toNatClampNeg) + 2)))) (8) (((upd (upd (w16) ((9 + 6 * f.toNatClampNeg) + 3) 0) ((9 + 6 * f.toNatClampNeg) + 2) (((upd (w16) ((9 + 6 * f.toNatClampNeg) + 3) 0) ((9 + 6 * f.toNatClampNeg) + 2)) - (w16 ((9 + 6 * f.toNatClampNeg) + 2)))) (8)) + (w16 ((9 + 6 * f.toNatClampNeg) + 3)))) (7) (((upd (upd (upd (w16) ((9 + 6 * f.toNatClampNeg) + 3) 0) ((9 + 6 * f.toNatClampNeg) + 2) (((upd (w16) ((9 + 6 * f.toNatClampNeg) + 3) 0) ((9 + 6 * f.toNatClampNeg) + 2)) - (w16 ((9 + 6 * f.toNatClampNeg) + 2)))) (8) (((upd (upd (w16) ((9 + 6 * f.toNatClampNeg) + 3) 0) ((9 + 6 * f.toNatClampNeg) + 2) (((upd (w16) ((9 + 6 * f.toNatClampNeg) + 3) 0) ((9 + 6 * f.toNatClampNeg) + 2)) - (w16 ((9 + 6 * f.toNatClampNeg) + 2)))) (8)) + (w16 ((9 + 6 * f.toNatClampNeg) + 3)))) (7)) + (w16 ((9 + 6 * f.toNatClampNeg) + 2))))) else ((w16 ((9 + 6 * f.toNatClampNeg) + 3)) + ((w16 ((9 + 6 * f.toNatClampNeg) + 3)) / 4), w15, (upd (upd (upd (upd (w16) ((9 + 6 * f.toNatClampNeg) + 3) 0) ((9 + 6 * f.toNatClampNeg) + 2) (((upd (w16) ((9 + 6 * f.toNatClampNeg) + 3) 0) ((9 + 6 * f.toNatClampNeg) + 2)) - ((w16 ((9 + 6 * f.toNatClampNeg) + 3)) / 4))) (8) (((upd (upd (w16) ((9 + 6 * f.toNatClampNeg) + 3) 0) ((9 + 6 * f.toNatClampNeg) + 2) (((upd (w16) ((9 + 6 * f.toNatClampNeg) + 3) 0) ((9 + 6 * f.toNatClampNeg) + 2)) - ((w16 ((9 + 6 * f.toNatClampNeg) + 3)) / 4))) (8)) + (w16 ((9 + 6 * f.toNatClampNeg) + 3)))) (7) (((upd (upd (upd (w16) ((9 + 6 * f.toNatClampNeg) + 3) 0) ((9 + 6 * f.toNatClampNeg) + 2) (((upd (w16) ((9 + 6 * f.toNatClampNeg) + 3) 0) ((9 + 6 * f.toNatClampNeg) + 2)) - ((w16 ((9 + 6 * f.toNatClampNeg) + 3)) / 4))) (8) (((upd (upd (w16) ((9 + 6 * f.toNatClampNeg) + 3) 0) ((9 + 6 * f.toNatClampNeg) + 2) (((upd (w16) ((9 + 6 * f.toNatClampNeg) + 3) 0) ((9 + 6 * f.toNatClampNeg) + 2)) - ((w16 ((9 + 6 * f.toNatClampNeg) + 3)) / 4))) (8)) + (w16 ((9 + 6 * f.toNatClampNeg) + 3)))) (7)) + ((w16 ((9 + 6 * f.toNatClampNeg) + 3)) / 4)))))))))
set_option maxHeartbeats 4000000 in
set_option maxRecDepth 100000 in
theorem cX8_skims_ok (l : Launch) (G : GT) (X : St) (f : Int32) : MetI l G yX8_skims (wsG yX8_skims cX8_skims 6 (some .int)) (rmz 3 65) [.ref (ad G 723), .int f] X (fun res Y => res = (oM_skims (X.1 15) (X.1 16) (X.1 21) f).1 ∧ Y = setRow (setRow (X) 15 ((oM_skims (X.1 15) (X.1 16) (X.1 21) f).2.1)) 16 ((oM_skims (X.1 15) (X.1 16) (X.1 21) f).2.2)) := by
  refine g_met (cc := cX8_skims) (maxL := 6) (ret := (some .int)) (by decide) rfl (Nat.le_of_ble_eq_true rfl) ?_
  intro p e s m below meth c ls C hr hlk hnm hW hl
  have hx := C.1.1
  have hb := C.1.2.1
  have hS : va_S (Ab G) s.heap s.heap [] := va_S.rf
  have hl : lv_has ls 6 [(0, .ref (ad G 723)), (1, .int f)] := hl
  have hW : Wd G (setRow (setRow (X) 15 (X.1 15)) 16 (X.1 16)) s.heap := Wd.cast (((sr_same (X := setRow (X) 15 (X.1 15)) (r := 16) rfl).trans (sr_same (X := X) (r := 15) rfl))).symm hW
  refine lv_iload_n hx hb dX8_skims_0 rfl (lv_at hl 1 rfl) ?_
  refine g_calli (va_runS (As := [.int f]) (rest := []) C.1 (cX8_isThree_ok l G (setRow (setRow X 15 (X.1 15)) 16 (X.1 16)) f) (va_cwS 1 C.1.2.2.2.2 (gS qw_1565 qw_1566 qw_81 qw_1567) rfl rfl rfl (by decide +kernel) ⟨Nat.le_of_ble_eq_true rfl, Nat.le_of_ble_eq_true rfl⟩) (g_pre C hW hS [.int f]) rfl rfl hl.1 rfl (lv_room (Nat.le_of_ble_eq_true rfl)) dX8_skims_1 ⟨Nat.zero_le _, Nat.zero_le _⟩) hS (fun r_2 Y_3 H_4 locs_5 hW_6 hS_7 h_1 => ?_)
  obtain ⟨h_1, hy_8⟩ := h_1
  replace hy_8 := hy_8.symm
  subst hy_8
  replace h_1 : r_2 = oM_isThree f := h_1
  subst h_1
  refine lv_if_ne (tgt := 13) hx hb dX8_skims_4 (by decide) (fun b_9 => ?_) (fun b_9 => ?_)
  · obtain ⟨f_10, hf_10, rfl⟩ := three_in b_9
    refine lv_iload_n hx hb dX8_skims_13 rfl (lv_at hl 1 rfl) ?_
    refine g_calli (va_runS (As := [.int (nI f_10)]) (rest := []) C.1 (cX8_furnace_ok l G (setRow (setRow X 15 (X.1 15)) 16 (X.1 16)) (nI f_10)) (va_cwS 1 C.1.2.2.2.2 (gS qw_1470 qw_1471 qw_81 qw_1472) rfl rfl rfl (by decide +kernel) ⟨Nat.le_of_ble_eq_true rfl, Nat.le_of_ble_eq_true rfl⟩) (g_pre C hW_6 hS_7 [.int (nI f_10)]) rfl rfl hl.1 rfl (lv_room (Nat.le_of_ble_eq_true rfl)) dX8_skims_14 ⟨Nat.zero_le _, Nat.zero_le _⟩) hS_7 (fun r_12 Y_13 H_14 locs_15 hW_16 hS_17 h_11 => ?_)
    obtain ⟨h_11, hy_18⟩ := h_11
    replace hy_18 := hy_18.symm
    subst hy_18
    replace h_11 : r_12 = oM_furnace (nI f_10) := h_11
    subst h_11
    refine g_top (y := nI (9 + 6 * f_10)) (at_furnace f_10) ?_
    refine lv_istore_n (lv' := [(2, .int (nI (9 + 6 * f_10))), (0, .ref (ad G 723)), (1, .int (nI f_10))]) hx hb dX8_skims_17 rfl hl (by decide) rfl (fun ls_19 hl_20 => ?_)
    refine lv_aload_n hx hb dX8_skims_18 rfl (lv_at hl_20 1 rfl) ?_
    refine gM_v C hW_16 (hwc hwX8) (mc qw_1481) dX8_skims_19 ?_
    refine lv_iload_n hx hb dX8_skims_22 rfl (lv_at hl_20 0 rfl) ?_
    refine lv_iconst (v := 3) hx hb dX8_skims_23 (by decide) ?_
    refine lv_iadd hx hb dX8_skims_24 ?_
    refine g_top (y := nI ((9 + 6 * f_10) + 3)) (nI_add (9 + 6 * f_10) 3) ?_
    refine gm_vld C hW_16 ((9 + 6 * f_10) + 3) (nI_clamp (by omega)) (vp_in_nI (show (9 + 6 * f_10) + 3 < 128 by omega) (by decide)) dX8_skims_25 ?_
    refine g_top (y := X.1 16 ((9 + 6 * f_10) + 3)) (congrFun rd_out _) ?_
    refine lv_topi (fun v_21 ev_21 => ?_)
    refine lv_istore_n (lv' := [(3, .int v_21), (2, .int (nI (9 + 6 * f_10))), (0, .ref (ad G 723)), (1, .int (nI f_10))]) hx hb dX8_skims_26 rfl hl_20 (by decide) rfl (fun ls_22 hl_23 => ?_)
    refine lv_iconst (v := 0) hx hb dX8_skims_27 (by decide) ?_
    refine lv_istore (lv' := [(4, .int 0), (3, .int v_21), (2, .int (nI (9 + 6 * f_10))), (0, .ref (ad G 723)), (1, .int (nI f_10))]) hx hb dX8_skims_28 hl_23 (by decide) rfl (fun ls_24 hl_25 => ?_)
    refine lv_iload_n hx hb dX8_skims_30 rfl (lv_at hl_25 1 rfl) ?_
    refine lv_if_ne (tgt := 40) hx hb dX8_skims_31 (by decide) (fun b_26 => ?_) (fun b_26 => ?_)
    · refine lv_aload_n hx hb dX8_skims_40 rfl (lv_at hl_25 3 rfl) ?_
      refine lv_iload_n hx hb dX8_skims_41 rfl (lv_at hl_25 2 rfl) ?_
      refine g_calli (va_runV (As := [.int (nI (9 + 6 * f_10))]) (rest := []) C.1 (cX8_isFluid_ok l G (setRow (setRow X 15 (X.1 15)) 16 (X.1 16)) (9 + 6 * f_10) (show 9 + 6 * f_10 + 5 ≤ 128 by omega)) (cwV 1 C.1.2.2.2.2 (gV qw_1611 qw_1613 qw_39 qw_81 qw_1614) rfl rfl rfl (by decide +kernel) ⟨Nat.le_of_ble_eq_true rfl, Nat.le_of_ble_eq_true rfl⟩) (g_rModel C hW_16 hS_17 [.int (nI (9 + 6 * f_10))]) rfl rfl hl_25.1 rfl (lv_room (Nat.le_of_ble_eq_true rfl)) dX8_skims_42 ⟨Nat.zero_le _, Nat.zero_le _⟩) hS_17 (fun r_28 Y_29 H_30 locs_31 hW_32 hS_33 h_27 => ?_)
      obtain ⟨h_27, hy_34⟩ := h_27
      replace hy_34 := hy_34.symm
      subst hy_34
      replace h_27 : r_28 = oM_isFluid (X.1 16) (X.1 21) (9 + 6 * f_10) := h_27
      subst h_27
      refine lv_if_ne (tgt := 54) hx hb dX8_skims_45 (by decide) (fun b_35 => ?_) (fun b_35 => ?_)
      · refine lv_iconst (v := 1) hx hb dX8_skims_54 (by decide) ?_
        refine lv_istore (lv' := [(5, .int 1), (4, .int 0), (3, .int v_21), (2, .int (nI (9 + 6 * f_10))), (0, .ref (ad G 723)), (1, .int (nI f_10))]) hx hb dX8_skims_55 hl_25 (by decide) rfl (fun ls_36 hl_37 => ?_)
        refine lv_iload hx hb dX8_skims_57 (lv_at hl_37 0 rfl) ?_
        refine lv_iconst (v := 3) hx hb dX8_skims_59 (by decide) ?_
        refine lv_icmp_ge (tgt := 94) hx hb dX8_skims_60 (by decide) (fun h9 => absurd h9 (by decide)) (fun _ => ?_)
        refine lv_aload_n hx hb dX8_skims_63 rfl (lv_at hl_37 4 rfl) ?_
        refine gM_v C hW_32 (hwc hwX8) (mc qw_1481) dX8_skims_64 ?_
        refine lv_iload_n hx hb dX8_skims_67 rfl (lv_at hl_37 3 rfl) ?_
        refine lv_iload hx hb dX8_skims_68 (lv_at hl_37 0 rfl) ?_
        refine lv_iadd hx hb dX8_skims_70 ?_
        refine g_top (y := nI ((9 + 6 * f_10) + 1)) (nI_add (9 + 6 * f_10) 1) ?_
        refine gm_vld C hW_32 ((9 + 6 * f_10) + 1) (nI_clamp (by omega)) (vp_in_nI (show (9 + 6 * f_10) + 1 < 128 by omega) (by decide)) dX8_skims_71 ?_
        refine g_top (y := X.1 16 ((9 + 6 * f_10) + 1)) (congrFun rd_out _) ?_
        refine lv_aload_n hx hb dX8_skims_72 rfl (lv_at hl_37 4 rfl) ?_
        refine gM_v C hW_32 (hwc hwX8) (mc qw_1481) dX8_skims_73 ?_
        refine lv_iload_n hx hb dX8_skims_76 rfl (lv_at hl_37 3 rfl) ?_
        refine lv_iload hx hb dX8_skims_77 (lv_at hl_37 1 rfl) ?_
        refine lv_iadd hx hb dX8_skims_79 ?_
        refine g_top (y := (nI (9 + 6 * f_10))) (Int32.add_zero _) ?_
        refine gm_vld C hW_32 (9 + 6 * f_10) (nI_clamp (by omega)) (vp_in_nI (show 9 + 6 * f_10 < 128 by omega) (by decide)) dX8_skims_80 ?_
        refine g_top (y := X.1 16 (9 + 6 * f_10)) (congrFun rd_out _) ?_
        refine lv_icmp_le (tgt := 88) hx hb dX8_skims_81 (by decide) (fun b_38 => ?_) (fun b_38 => ?_)
        · refine lv_iinc (v := 2) (lv' := [(5, .int 2), (4, .int 0), (3, .int v_21), (2, .int (nI (9 + 6 * f_10))), (0, .ref (ad G 723)), (1, .int (nI f_10))]) hx hb dX8_skims_88 hl_37 (k := 0) rfl (by decide) (by decide) rfl (fun ls_39 hl_40 => ?_)
          refine lv_goto (tgt := 57) hx hb dX8_skims_91 (by decide) ?_
          refine lv_iload hx hb dX8_skims_57 (lv_at hl_40 0 rfl) ?_
          refine lv_iconst (v := 3) hx hb dX8_skims_59 (by decide) ?_
          refine lv_icmp_ge (tgt := 94) hx hb dX8_skims_60 (by decide) (fun h9 => absurd h9 (by decide)) (fun _ => ?_)
          refine lv_aload_n hx hb dX8_skims_63 rfl (lv_at hl_40 4 rfl) ?_
          refine gM_v C hW_32 (hwc hwX8) (mc qw_1481) dX8_skims_64 ?_
          refine lv_iload_n hx hb dX8_skims_67 rfl (lv_at hl_40 3 rfl) ?_
          refine lv_iload hx hb dX8_skims_68 (lv_at hl_40 0 rfl) ?_
          refine lv_iadd hx hb dX8_skims_70 ?_
          refine g_top (y := nI ((9 + 6 * f_10) + 2)) (nI_add (9 + 6 * f_10) 2) ?_
          refine gm_vld C hW_32 ((9 + 6 * f_10) + 2) (nI_clamp (by omega)) (vp_in_nI (show (9 + 6 * f_10) + 2 < 128 by omega) (by decide)) dX8_skims_71 ?_
          refine g_top (y := X.1 16 ((9 + 6 * f_10) + 2)) (congrFun rd_out _) ?_
          refine lv_aload_n hx hb dX8_skims_72 rfl (lv_at hl_40 4 rfl) ?_
          refine gM_v C hW_32 (hwc hwX8) (mc qw_1481) dX8_skims_73 ?_
          refine lv_iload_n hx hb dX8_skims_76 rfl (lv_at hl_40 3 rfl) ?_
          refine lv_iload hx hb dX8_skims_77 (lv_at hl_40 1 rfl) ?_
          refine lv_iadd hx hb dX8_skims_79 ?_
          refine g_top (y := (nI (9 + 6 * f_10))) (Int32.add_zero _) ?_
          refine gm_vld C hW_32 (9 + 6 * f_10) (nI_clamp (by omega)) (vp_in_nI (show 9 + 6 * f_10 < 128 by omega) (by decide)) dX8_skims_80 ?_
          refine g_top (y := X.1 16 (9 + 6 * f_10)) (congrFun rd_out _) ?_
          refine lv_icmp_le (tgt := 88) hx hb dX8_skims_81 (by decide) (fun b_41 => ?_) (fun b_41 => ?_)
          · refine lv_iinc (v := 3) (lv' := [(5, .int 3), (4, .int 0), (3, .int v_21), (2, .int (nI (9 + 6 * f_10))), (0, .ref (ad G 723)), (1, .int (nI f_10))]) hx hb dX8_skims_88 hl_40 (k := 0) rfl (by decide) (by decide) rfl (fun ls_42 hl_43 => ?_)
            refine lv_goto (tgt := 57) hx hb dX8_skims_91 (by decide) ?_
            refine lv_iload hx hb dX8_skims_57 (lv_at hl_43 0 rfl) ?_
            refine lv_iconst (v := 3) hx hb dX8_skims_59 (by decide) ?_
            refine lv_icmp_ge (tgt := 94) hx hb dX8_skims_60 (by decide) (fun _ => ?_) (fun h9 => absurd h9 (by decide))
            refine lv_iload_n hx hb dX8_skims_94 rfl (lv_at hl_43 2 rfl) ?_
            refine lv_iconst (v := 4) hx hb dX8_skims_95 (by decide) ?_
            refine lv_idiv hx hb dX8_skims_96 (by decide) ?_
            refine lv_aload_n hx hb dX8_skims_97 rfl (lv_at hl_43 4 rfl) ?_
            refine gM_v C hW_32 (hwc hwX8) (mc qw_1481) dX8_skims_98 ?_
            refine lv_iload_n hx hb dX8_skims_101 rfl (lv_at hl_43 3 rfl) ?_
            refine lv_iload hx hb dX8_skims_102 (lv_at hl_43 1 rfl) ?_
            refine lv_iadd hx hb dX8_skims_104 ?_
            refine g_top (y := (nI (9 + 6 * f_10))) (Int32.add_zero _) ?_
            refine gm_vld C hW_32 (9 + 6 * f_10) (nI_clamp (by omega)) (vp_in_nI (show 9 + 6 * f_10 < 128 by omega) (by decide)) dX8_skims_105 ?_
            refine g_top (y := X.1 16 (9 + 6 * f_10)) (congrFun rd_out _) ?_
            refine lv_icmp_ge (tgt := 115) hx hb dX8_skims_106 (by decide) (fun b_44 => ?_) (fun b_44 => ?_)
            · refine lv_aload_n hx hb dX8_skims_115 rfl (lv_at hl_43 4 rfl) ?_
              refine gM_v C hW_32 (hwc hwX8) (mc qw_1481) dX8_skims_116 ?_
              refine lv_iload_n hx hb dX8_skims_119 rfl (lv_at hl_43 3 rfl) ?_
              refine lv_iload hx hb dX8_skims_120 (lv_at hl_43 1 rfl) ?_
              refine lv_iadd hx hb dX8_skims_122 ?_
              refine g_top (y := (nI (9 + 6 * f_10))) (Int32.add_zero _) ?_
              refine gm_vld C hW_32 (9 + 6 * f_10) (nI_clamp (by omega)) (vp_in_nI (show 9 + 6 * f_10 < 128 by omega) (by decide)) dX8_skims_123 ?_
              refine g_top (y := X.1 16 (9 + 6 * f_10)) (congrFun rd_out _) ?_
              refine lv_topi (fun v_45 ev_45 => ?_)
              refine lv_istore (lv' := [(5, .int v_45), (4, .int 0), (3, .int v_21), (2, .int (nI (9 + 6 * f_10))), (0, .ref (ad G 723)), (1, .int (nI f_10))]) hx hb dX8_skims_124 hl_43 (by decide) rfl (fun ls_46 hl_47 => ?_)
              refine lv_aload_n hx hb dX8_skims_126 rfl (lv_at hl_47 4 rfl) ?_
              refine gM_v C hW_32 (hwc hwX8) (mc qw_1481) dX8_skims_127 ?_
              refine lv_iload_n hx hb dX8_skims_130 rfl (lv_at hl_47 3 rfl) ?_
              refine lv_iconst (v := 3) hx hb dX8_skims_131 (by decide) ?_
              refine lv_iadd hx hb dX8_skims_132 ?_
              refine g_top (y := nI ((9 + 6 * f_10) + 3)) (nI_add (9 + 6 * f_10) 3) ?_
              refine lv_iconst (v := 0) hx hb dX8_skims_133 (by decide) ?_
              refine gm_vst C hW_32 hS_33 ((9 + 6 * f_10) + 3) (nI_clamp (by omega)) (vp_in_nI (show (9 + 6 * f_10) + 3 < 128 by omega) (by decide)) dX8_skims_134 (fun H_48 locs_49 hW_50 hS_51 => ?_)
              obtain ⟨w_52, ew_52⟩ : ∃ Z9, Z9 = upd (X.1 16) ((9 + 6 * f_10) + 3) 0 := ⟨_, rfl⟩
              have hW_53 : Wd G (setRow (setRow X 15 (X.1 15)) 16 w_52) H_48 := Wd.cast (by rw [ew_52]; exact st_out) hW_50
              refine lv_aload_n hx hb dX8_skims_135 rfl (lv_at hl_47 4 rfl) ?_
              refine gM_v C hW_53 (hwc hwX8) (mc qw_1481) dX8_skims_136 ?_
              refine lv_iload_n hx hb dX8_skims_139 rfl (lv_at hl_47 3 rfl) ?_
              refine lv_iload hx hb dX8_skims_140 (lv_at hl_47 1 rfl) ?_
              refine lv_iadd hx hb dX8_skims_142 ?_
              refine g_top (y := (nI (9 + 6 * f_10))) (Int32.add_zero _) ?_
              refine lv_dup2_11 hx hb dX8_skims_143 rfl rfl ?_
              refine gm_vld C hW_53 (9 + 6 * f_10) (nI_clamp (by omega)) (vp_in_nI (show 9 + 6 * f_10 < 128 by omega) (by decide)) dX8_skims_144 ?_
              refine g_top (y := w_52 (9 + 6 * f_10)) (congrFun rd_out _) ?_
              refine lv_iload hx hb dX8_skims_145 (lv_at hl_47 0 rfl) ?_
              refine lv_isub hx hb dX8_skims_147 ?_
              refine gm_vst C hW_53 hS_51 (9 + 6 * f_10) (nI_clamp (by omega)) (vp_in_nI (show 9 + 6 * f_10 < 128 by omega) (by decide)) dX8_skims_148 (fun H_54 locs_55 hW_56 hS_57 => ?_)
              obtain ⟨w_58, ew_58⟩ : ∃ Z9, Z9 = upd w_52 (9 + 6 * f_10) ((w_52 (9 + 6 * f_10)) - v_45) := ⟨_, rfl⟩
              have hW_59 : Wd G (setRow (setRow X 15 (X.1 15)) 16 w_58) H_54 := Wd.cast (by rw [ew_58]; exact st_out) hW_56
              refine lv_aload_n hx hb dX8_skims_149 rfl (lv_at hl_47 4 rfl) ?_
              refine gM_v C hW_59 (hwc hwX8) (mc qw_1481) dX8_skims_150 ?_
              refine lv_bipush (v := 8) hx hb dX8_skims_153 (by decide) ?_
              refine lv_dup2_11 hx hb dX8_skims_155 rfl rfl ?_
              refine gm_vld C hW_59 8 (by decide) (vlit (by decide)) dX8_skims_156 ?_
              refine g_top (y := w_58 (8)) (congrFun rd_out _) ?_
              refine lv_iload_n hx hb dX8_skims_157 rfl (lv_at hl_47 2 rfl) ?_
              refine lv_iadd hx hb dX8_skims_158 ?_
              refine gm_vst C hW_59 hS_57 8 (by decide) (vlit (by decide)) dX8_skims_159 (fun H_60 locs_61 hW_62 hS_63 => ?_)
              obtain ⟨w_64, ew_64⟩ : ∃ Z9, Z9 = upd w_58 (8) ((w_58 (8)) + v_21) := ⟨_, rfl⟩
              have hW_65 : Wd G (setRow (setRow X 15 (X.1 15)) 16 w_64) H_60 := Wd.cast (by rw [ew_64]; exact st_out) hW_62
              refine lv_aload_n hx hb dX8_skims_160 rfl (lv_at hl_47 4 rfl) ?_
              refine gM_v C hW_65 (hwc hwX8) (mc qw_1481) dX8_skims_161 ?_
              refine lv_iconst (v := 5) hx hb dX8_skims_164 (by decide) ?_
              refine lv_iload hx hb dX8_skims_165 (lv_at hl_47 1 rfl) ?_
              refine lv_iadd hx hb dX8_skims_167 ?_
              refine g_top (y := 5) (by decide) ?_
              refine lv_dup2_11 hx hb dX8_skims_168 rfl rfl ?_
              refine gm_vld C hW_65 5 (by decide) (vlit (by decide)) dX8_skims_169 ?_
              refine g_top (y := w_64 (5)) (congrFun rd_out _) ?_
              refine lv_iload hx hb dX8_skims_170 (lv_at hl_47 0 rfl) ?_
              refine lv_iadd hx hb dX8_skims_172 ?_
              refine gm_vst C hW_65 hS_63 5 (by decide) (vlit (by decide)) dX8_skims_173 (fun H_66 locs_67 hW_68 hS_69 => ?_)
              obtain ⟨w_70, ew_70⟩ : ∃ Z9, Z9 = upd w_64 (5) ((w_64 (5)) + v_45) := ⟨_, rfl⟩
              have hW_71 : Wd G (setRow (setRow X 15 (X.1 15)) 16 w_70) H_66 := Wd.cast (by rw [ew_70]; exact st_out) hW_68
              refine lv_iload_n hx hb dX8_skims_174 rfl (lv_at hl_47 2 rfl) ?_
              refine lv_iload hx hb dX8_skims_175 (lv_at hl_47 0 rfl) ?_
              refine lv_iadd hx hb dX8_skims_177 ?_
              exact g_iret C hr hlk hW_71 hS_69 dX8_skims_178 (by subst ew_70; subst ew_64; subst ew_58; subst ew_52; subst ev_45; subst ev_21; exact ⟨(by first | rfl | (simp only [oM_skims, clf (show f_10 < 2 ^ 31 by omega), b_9, b_26, b_35, b_38, b_41, b_44, if_true, if_false]; first | done | rfl)), (by first | rfl | (simp only [oM_skims, clf (show f_10 < 2 ^ 31 by omega), b_9, b_26, b_35, b_38, b_41, b_44, if_true, if_false]; first | done | rfl))⟩)
            · refine lv_iload_n hx hb dX8_skims_109 rfl (lv_at hl_43 2 rfl) ?_
              refine lv_iconst (v := 4) hx hb dX8_skims_110 (by decide) ?_
              refine lv_idiv hx hb dX8_skims_111 (by decide) ?_
              refine lv_goto (tgt := 124) hx hb dX8_skims_112 (by decide) ?_
              refine lv_topi (fun v_72 ev_72 => ?_)
              refine lv_istore (lv' := [(5, .int v_72), (4, .int 0), (3, .int v_21), (2, .int (nI (9 + 6 * f_10))), (0, .ref (ad G 723)), (1, .int (nI f_10))]) hx hb dX8_skims_124 hl_43 (by decide) rfl (fun ls_73 hl_74 => ?_)
              refine lv_aload_n hx hb dX8_skims_126 rfl (lv_at hl_74 4 rfl) ?_
              refine gM_v C hW_32 (hwc hwX8) (mc qw_1481) dX8_skims_127 ?_
              refine lv_iload_n hx hb dX8_skims_130 rfl (lv_at hl_74 3 rfl) ?_
              refine lv_iconst (v := 3) hx hb dX8_skims_131 (by decide) ?_
              refine lv_iadd hx hb dX8_skims_132 ?_
              refine g_top (y := nI ((9 + 6 * f_10) + 3)) (nI_add (9 + 6 * f_10) 3) ?_
              refine lv_iconst (v := 0) hx hb dX8_skims_133 (by decide) ?_
              refine gm_vst C hW_32 hS_33 ((9 + 6 * f_10) + 3) (nI_clamp (by omega)) (vp_in_nI (show (9 + 6 * f_10) + 3 < 128 by omega) (by decide)) dX8_skims_134 (fun H_75 locs_76 hW_77 hS_78 => ?_)
              obtain ⟨w_79, ew_79⟩ : ∃ Z9, Z9 = upd (X.1 16) ((9 + 6 * f_10) + 3) 0 := ⟨_, rfl⟩
              have hW_80 : Wd G (setRow (setRow X 15 (X.1 15)) 16 w_79) H_75 := Wd.cast (by rw [ew_79]; exact st_out) hW_77
              refine lv_aload_n hx hb dX8_skims_135 rfl (lv_at hl_74 4 rfl) ?_
              refine gM_v C hW_80 (hwc hwX8) (mc qw_1481) dX8_skims_136 ?_
              refine lv_iload_n hx hb dX8_skims_139 rfl (lv_at hl_74 3 rfl) ?_
              refine lv_iload hx hb dX8_skims_140 (lv_at hl_74 1 rfl) ?_
              refine lv_iadd hx hb dX8_skims_142 ?_
              refine g_top (y := (nI (9 + 6 * f_10))) (Int32.add_zero _) ?_
              refine lv_dup2_11 hx hb dX8_skims_143 rfl rfl ?_
              refine gm_vld C hW_80 (9 + 6 * f_10) (nI_clamp (by omega)) (vp_in_nI (show 9 + 6 * f_10 < 128 by omega) (by decide)) dX8_skims_144 ?_
              refine g_top (y := w_79 (9 + 6 * f_10)) (congrFun rd_out _) ?_
              refine lv_iload hx hb dX8_skims_145 (lv_at hl_74 0 rfl) ?_
              refine lv_isub hx hb dX8_skims_147 ?_
              refine gm_vst C hW_80 hS_78 (9 + 6 * f_10) (nI_clamp (by omega)) (vp_in_nI (show 9 + 6 * f_10 < 128 by omega) (by decide)) dX8_skims_148 (fun H_81 locs_82 hW_83 hS_84 => ?_)
              obtain ⟨w_85, ew_85⟩ : ∃ Z9, Z9 = upd w_79 (9 + 6 * f_10) ((w_79 (9 + 6 * f_10)) - v_72) := ⟨_, rfl⟩
              have hW_86 : Wd G (setRow (setRow X 15 (X.1 15)) 16 w_85) H_81 := Wd.cast (by rw [ew_85]; exact st_out) hW_83
              refine lv_aload_n hx hb dX8_skims_149 rfl (lv_at hl_74 4 rfl) ?_
              refine gM_v C hW_86 (hwc hwX8) (mc qw_1481) dX8_skims_150 ?_
              refine lv_bipush (v := 8) hx hb dX8_skims_153 (by decide) ?_
              refine lv_dup2_11 hx hb dX8_skims_155 rfl rfl ?_
              refine gm_vld C hW_86 8 (by decide) (vlit (by decide)) dX8_skims_156 ?_
              refine g_top (y := w_85 (8)) (congrFun rd_out _) ?_
              refine lv_iload_n hx hb dX8_skims_157 rfl (lv_at hl_74 2 rfl) ?_
              refine lv_iadd hx hb dX8_skims_158 ?_
              refine gm_vst C hW_86 hS_84 8 (by decide) (vlit (by decide)) dX8_skims_159 (fun H_87 locs_88 hW_89 hS_90 => ?_)
              obtain ⟨w_91, ew_91⟩ : ∃ Z9, Z9 = upd w_85 (8) ((w_85 (8)) + v_21) := ⟨_, rfl⟩
              have hW_92 : Wd G (setRow (setRow X 15 (X.1 15)) 16 w_91) H_87 := Wd.cast (by rw [ew_91]; exact st_out) hW_89
              refine lv_aload_n hx hb dX8_skims_160 rfl (lv_at hl_74 4 rfl) ?_
              refine gM_v C hW_92 (hwc hwX8) (mc qw_1481) dX8_skims_161 ?_
              refine lv_iconst (v := 5) hx hb dX8_skims_164 (by decide) ?_
              refine lv_iload hx hb dX8_skims_165 (lv_at hl_74 1 rfl) ?_
              refine lv_iadd hx hb dX8_skims_167 ?_
              refine g_top (y := 5) (by decide) ?_
              refine lv_dup2_11 hx hb dX8_skims_168 rfl rfl ?_
              refine gm_vld C hW_92 5 (by decide) (vlit (by decide)) dX8_skims_169 ?_
              refine g_top (y := w_91 (5)) (congrFun rd_out _) ?_
              refine lv_iload hx hb dX8_skims_170 (lv_at hl_74 0 rfl) ?_
              refine lv_iadd hx hb dX8_skims_172 ?_
              refine gm_vst C hW_92 hS_90 5 (by decide) (vlit (by decide)) dX8_skims_173 (fun H_93 locs_94 hW_95 hS_96 => ?_)
              obtain ⟨w_97, ew_97⟩ : ∃ Z9, Z9 = upd w_91 (5) ((w_91 (5)) + v_72) := ⟨_, rfl⟩
              have hW_98 : Wd G (setRow (setRow X 15 (X.1 15)) 16 w_97) H_93 := Wd.cast (by rw [ew_97]; exact st_out) hW_95
              refine lv_iload_n hx hb dX8_skims_174 rfl (lv_at hl_74 2 rfl) ?_
              refine lv_iload hx hb dX8_skims_175 (lv_at hl_74 0 rfl) ?_
              refine lv_iadd hx hb dX8_skims_177 ?_
              exact g_iret C hr hlk hW_98 hS_96 dX8_skims_178 (by subst ew_97; subst ew_91; subst ew_85; subst ew_79; subst ev_72; subst ev_21; exact ⟨(by first | rfl | (simp only [oM_skims, clf (show f_10 < 2 ^ 31 by omega), b_9, b_26, b_35, b_38, b_41, b_44, if_true, if_false]; first | done | rfl)), (by first | rfl | (simp only [oM_skims, clf (show f_10 < 2 ^ 31 by omega), b_9, b_26, b_35, b_38, b_41, b_44, if_true, if_false]; first | done | rfl))⟩)
          · refine lv_iload hx hb dX8_skims_84 (lv_at hl_40 0 rfl) ?_
            refine lv_istore (lv' := [(4, .int 2), (5, .int 2), (3, .int v_21), (2, .int (nI (9 + 6 * f_10))), (0, .ref (ad G 723)), (1, .int (nI f_10))]) hx hb dX8_skims_86 hl_40 (by decide) rfl (fun ls_99 hl_100 => ?_)
            refine lv_iinc (v := 3) (lv' := [(5, .int 3), (4, .int 2), (3, .int v_21), (2, .int (nI (9 + 6 * f_10))), (0, .ref (ad G 723)), (1, .int (nI f_10))]) hx hb dX8_skims_88 hl_100 (k := 1) rfl (by decide) (by decide) rfl (fun ls_101 hl_102 => ?_)
            refine lv_goto (tgt := 57) hx hb dX8_skims_91 (by decide) ?_
            refine lv_iload hx hb dX8_skims_57 (lv_at hl_102 0 rfl) ?_
            refine lv_iconst (v := 3) hx hb dX8_skims_59 (by decide) ?_
            refine lv_icmp_ge (tgt := 94) hx hb dX8_skims_60 (by decide) (fun _ => ?_) (fun h9 => absurd h9 (by decide))
            refine lv_iload_n hx hb dX8_skims_94 rfl (lv_at hl_102 2 rfl) ?_
            refine lv_iconst (v := 4) hx hb dX8_skims_95 (by decide) ?_
            refine lv_idiv hx hb dX8_skims_96 (by decide) ?_
            refine lv_aload_n hx hb dX8_skims_97 rfl (lv_at hl_102 4 rfl) ?_
            refine gM_v C hW_32 (hwc hwX8) (mc qw_1481) dX8_skims_98 ?_
            refine lv_iload_n hx hb dX8_skims_101 rfl (lv_at hl_102 3 rfl) ?_
            refine lv_iload hx hb dX8_skims_102 (lv_at hl_102 1 rfl) ?_
            refine lv_iadd hx hb dX8_skims_104 ?_
            refine g_top (y := nI ((9 + 6 * f_10) + 2)) (nI_add (9 + 6 * f_10) 2) ?_
            refine gm_vld C hW_32 ((9 + 6 * f_10) + 2) (nI_clamp (by omega)) (vp_in_nI (show (9 + 6 * f_10) + 2 < 128 by omega) (by decide)) dX8_skims_105 ?_
            refine g_top (y := X.1 16 ((9 + 6 * f_10) + 2)) (congrFun rd_out _) ?_
            refine lv_icmp_ge (tgt := 115) hx hb dX8_skims_106 (by decide) (fun b_103 => ?_) (fun b_103 => ?_)
            · refine lv_aload_n hx hb dX8_skims_115 rfl (lv_at hl_102 4 rfl) ?_
              refine gM_v C hW_32 (hwc hwX8) (mc qw_1481) dX8_skims_116 ?_
              refine lv_iload_n hx hb dX8_skims_119 rfl (lv_at hl_102 3 rfl) ?_
              refine lv_iload hx hb dX8_skims_120 (lv_at hl_102 1 rfl) ?_
              refine lv_iadd hx hb dX8_skims_122 ?_
              refine g_top (y := nI ((9 + 6 * f_10) + 2)) (nI_add (9 + 6 * f_10) 2) ?_
              refine gm_vld C hW_32 ((9 + 6 * f_10) + 2) (nI_clamp (by omega)) (vp_in_nI (show (9 + 6 * f_10) + 2 < 128 by omega) (by decide)) dX8_skims_123 ?_
              refine g_top (y := X.1 16 ((9 + 6 * f_10) + 2)) (congrFun rd_out _) ?_
              refine lv_topi (fun v_104 ev_104 => ?_)
              refine lv_istore (lv' := [(5, .int v_104), (4, .int 2), (3, .int v_21), (2, .int (nI (9 + 6 * f_10))), (0, .ref (ad G 723)), (1, .int (nI f_10))]) hx hb dX8_skims_124 hl_102 (by decide) rfl (fun ls_105 hl_106 => ?_)
              refine lv_aload_n hx hb dX8_skims_126 rfl (lv_at hl_106 4 rfl) ?_
              refine gM_v C hW_32 (hwc hwX8) (mc qw_1481) dX8_skims_127 ?_
              refine lv_iload_n hx hb dX8_skims_130 rfl (lv_at hl_106 3 rfl) ?_
              refine lv_iconst (v := 3) hx hb dX8_skims_131 (by decide) ?_
              refine lv_iadd hx hb dX8_skims_132 ?_
              refine g_top (y := nI ((9 + 6 * f_10) + 3)) (nI_add (9 + 6 * f_10) 3) ?_
              refine lv_iconst (v := 0) hx hb dX8_skims_133 (by decide) ?_
              refine gm_vst C hW_32 hS_33 ((9 + 6 * f_10) + 3) (nI_clamp (by omega)) (vp_in_nI (show (9 + 6 * f_10) + 3 < 128 by omega) (by decide)) dX8_skims_134 (fun H_107 locs_108 hW_109 hS_110 => ?_)
              obtain ⟨w_111, ew_111⟩ : ∃ Z9, Z9 = upd (X.1 16) ((9 + 6 * f_10) + 3) 0 := ⟨_, rfl⟩
              have hW_112 : Wd G (setRow (setRow X 15 (X.1 15)) 16 w_111) H_107 := Wd.cast (by rw [ew_111]; exact st_out) hW_109
              refine lv_aload_n hx hb dX8_skims_135 rfl (lv_at hl_106 4 rfl) ?_
              refine gM_v C hW_112 (hwc hwX8) (mc qw_1481) dX8_skims_136 ?_
              refine lv_iload_n hx hb dX8_skims_139 rfl (lv_at hl_106 3 rfl) ?_
              refine lv_iload hx hb dX8_skims_140 (lv_at hl_106 1 rfl) ?_
              refine lv_iadd hx hb dX8_skims_142 ?_
              refine g_top (y := nI ((9 + 6 * f_10) + 2)) (nI_add (9 + 6 * f_10) 2) ?_
              refine lv_dup2_11 hx hb dX8_skims_143 rfl rfl ?_
              refine gm_vld C hW_112 ((9 + 6 * f_10) + 2) (nI_clamp (by omega)) (vp_in_nI (show (9 + 6 * f_10) + 2 < 128 by omega) (by decide)) dX8_skims_144 ?_
              refine g_top (y := w_111 ((9 + 6 * f_10) + 2)) (congrFun rd_out _) ?_
              refine lv_iload hx hb dX8_skims_145 (lv_at hl_106 0 rfl) ?_
              refine lv_isub hx hb dX8_skims_147 ?_
              refine gm_vst C hW_112 hS_110 ((9 + 6 * f_10) + 2) (nI_clamp (by omega)) (vp_in_nI (show (9 + 6 * f_10) + 2 < 128 by omega) (by decide)) dX8_skims_148 (fun H_113 locs_114 hW_115 hS_116 => ?_)
              obtain ⟨w_117, ew_117⟩ : ∃ Z9, Z9 = upd w_111 ((9 + 6 * f_10) + 2) ((w_111 ((9 + 6 * f_10) + 2)) - v_104) := ⟨_, rfl⟩
              have hW_118 : Wd G (setRow (setRow X 15 (X.1 15)) 16 w_117) H_113 := Wd.cast (by rw [ew_117]; exact st_out) hW_115
              refine lv_aload_n hx hb dX8_skims_149 rfl (lv_at hl_106 4 rfl) ?_
              refine gM_v C hW_118 (hwc hwX8) (mc qw_1481) dX8_skims_150 ?_
              refine lv_bipush (v := 8) hx hb dX8_skims_153 (by decide) ?_
              refine lv_dup2_11 hx hb dX8_skims_155 rfl rfl ?_
              refine gm_vld C hW_118 8 (by decide) (vlit (by decide)) dX8_skims_156 ?_
              refine g_top (y := w_117 (8)) (congrFun rd_out _) ?_
              refine lv_iload_n hx hb dX8_skims_157 rfl (lv_at hl_106 2 rfl) ?_
              refine lv_iadd hx hb dX8_skims_158 ?_
              refine gm_vst C hW_118 hS_116 8 (by decide) (vlit (by decide)) dX8_skims_159 (fun H_119 locs_120 hW_121 hS_122 => ?_)
              obtain ⟨w_123, ew_123⟩ : ∃ Z9, Z9 = upd w_117 (8) ((w_117 (8)) + v_21) := ⟨_, rfl⟩
              have hW_124 : Wd G (setRow (setRow X 15 (X.1 15)) 16 w_123) H_119 := Wd.cast (by rw [ew_123]; exact st_out) hW_121
              refine lv_aload_n hx hb dX8_skims_160 rfl (lv_at hl_106 4 rfl) ?_
              refine gM_v C hW_124 (hwc hwX8) (mc qw_1481) dX8_skims_161 ?_
              refine lv_iconst (v := 5) hx hb dX8_skims_164 (by decide) ?_
              refine lv_iload hx hb dX8_skims_165 (lv_at hl_106 1 rfl) ?_
              refine lv_iadd hx hb dX8_skims_167 ?_
              refine g_top (y := 7) (by decide) ?_
              refine lv_dup2_11 hx hb dX8_skims_168 rfl rfl ?_
              refine gm_vld C hW_124 7 (by decide) (vlit (by decide)) dX8_skims_169 ?_
              refine g_top (y := w_123 (7)) (congrFun rd_out _) ?_
              refine lv_iload hx hb dX8_skims_170 (lv_at hl_106 0 rfl) ?_
              refine lv_iadd hx hb dX8_skims_172 ?_
              refine gm_vst C hW_124 hS_122 7 (by decide) (vlit (by decide)) dX8_skims_173 (fun H_125 locs_126 hW_127 hS_128 => ?_)
              obtain ⟨w_129, ew_129⟩ : ∃ Z9, Z9 = upd w_123 (7) ((w_123 (7)) + v_104) := ⟨_, rfl⟩
              have hW_130 : Wd G (setRow (setRow X 15 (X.1 15)) 16 w_129) H_125 := Wd.cast (by rw [ew_129]; exact st_out) hW_127
              refine lv_iload_n hx hb dX8_skims_174 rfl (lv_at hl_106 2 rfl) ?_
              refine lv_iload hx hb dX8_skims_175 (lv_at hl_106 0 rfl) ?_
              refine lv_iadd hx hb dX8_skims_177 ?_
              exact g_iret C hr hlk hW_130 hS_128 dX8_skims_178 (by subst ew_129; subst ew_123; subst ew_117; subst ew_111; subst ev_104; subst ev_21; exact ⟨(by first | rfl | (simp only [oM_skims, clf (show f_10 < 2 ^ 31 by omega), b_9, b_26, b_35, b_38, b_41, b_103, if_true, if_false]; first | done | rfl)), (by first | rfl | (simp only [oM_skims, clf (show f_10 < 2 ^ 31 by omega), b_9, b_26, b_35, b_38, b_41, b_103, if_true, if_false]; first | done | rfl))⟩)
            · refine lv_iload_n hx hb dX8_skims_109 rfl (lv_at hl_102 2 rfl) ?_
              refine lv_iconst (v := 4) hx hb dX8_skims_110 (by decide) ?_
              refine lv_idiv hx hb dX8_skims_111 (by decide) ?_
              refine lv_goto (tgt := 124) hx hb dX8_skims_112 (by decide) ?_
              refine lv_topi (fun v_131 ev_131 => ?_)
              refine lv_istore (lv' := [(5, .int v_131), (4, .int 2), (3, .int v_21), (2, .int (nI (9 + 6 * f_10))), (0, .ref (ad G 723)), (1, .int (nI f_10))]) hx hb dX8_skims_124 hl_102 (by decide) rfl (fun ls_132 hl_133 => ?_)
              refine lv_aload_n hx hb dX8_skims_126 rfl (lv_at hl_133 4 rfl) ?_
              refine gM_v C hW_32 (hwc hwX8) (mc qw_1481) dX8_skims_127 ?_
              refine lv_iload_n hx hb dX8_skims_130 rfl (lv_at hl_133 3 rfl) ?_
              refine lv_iconst (v := 3) hx hb dX8_skims_131 (by decide) ?_
              refine lv_iadd hx hb dX8_skims_132 ?_
              refine g_top (y := nI ((9 + 6 * f_10) + 3)) (nI_add (9 + 6 * f_10) 3) ?_
              refine lv_iconst (v := 0) hx hb dX8_skims_133 (by decide) ?_
              refine gm_vst C hW_32 hS_33 ((9 + 6 * f_10) + 3) (nI_clamp (by omega)) (vp_in_nI (show (9 + 6 * f_10) + 3 < 128 by omega) (by decide)) dX8_skims_134 (fun H_134 locs_135 hW_136 hS_137 => ?_)
              obtain ⟨w_138, ew_138⟩ : ∃ Z9, Z9 = upd (X.1 16) ((9 + 6 * f_10) + 3) 0 := ⟨_, rfl⟩
              have hW_139 : Wd G (setRow (setRow X 15 (X.1 15)) 16 w_138) H_134 := Wd.cast (by rw [ew_138]; exact st_out) hW_136
              refine lv_aload_n hx hb dX8_skims_135 rfl (lv_at hl_133 4 rfl) ?_
              refine gM_v C hW_139 (hwc hwX8) (mc qw_1481) dX8_skims_136 ?_
              refine lv_iload_n hx hb dX8_skims_139 rfl (lv_at hl_133 3 rfl) ?_
              refine lv_iload hx hb dX8_skims_140 (lv_at hl_133 1 rfl) ?_
              refine lv_iadd hx hb dX8_skims_142 ?_
              refine g_top (y := nI ((9 + 6 * f_10) + 2)) (nI_add (9 + 6 * f_10) 2) ?_
              refine lv_dup2_11 hx hb dX8_skims_143 rfl rfl ?_
              refine gm_vld C hW_139 ((9 + 6 * f_10) + 2) (nI_clamp (by omega)) (vp_in_nI (show (9 + 6 * f_10) + 2 < 128 by omega) (by decide)) dX8_skims_144 ?_
              refine g_top (y := w_138 ((9 + 6 * f_10) + 2)) (congrFun rd_out _) ?_
              refine lv_iload hx hb dX8_skims_145 (lv_at hl_133 0 rfl) ?_
              refine lv_isub hx hb dX8_skims_147 ?_
              refine gm_vst C hW_139 hS_137 ((9 + 6 * f_10) + 2) (nI_clamp (by omega)) (vp_in_nI (show (9 + 6 * f_10) + 2 < 128 by omega) (by decide)) dX8_skims_148 (fun H_140 locs_141 hW_142 hS_143 => ?_)
              obtain ⟨w_144, ew_144⟩ : ∃ Z9, Z9 = upd w_138 ((9 + 6 * f_10) + 2) ((w_138 ((9 + 6 * f_10) + 2)) - v_131) := ⟨_, rfl⟩
              have hW_145 : Wd G (setRow (setRow X 15 (X.1 15)) 16 w_144) H_140 := Wd.cast (by rw [ew_144]; exact st_out) hW_142
              refine lv_aload_n hx hb dX8_skims_149 rfl (lv_at hl_133 4 rfl) ?_
              refine gM_v C hW_145 (hwc hwX8) (mc qw_1481) dX8_skims_150 ?_
              refine lv_bipush (v := 8) hx hb dX8_skims_153 (by decide) ?_
              refine lv_dup2_11 hx hb dX8_skims_155 rfl rfl ?_
              refine gm_vld C hW_145 8 (by decide) (vlit (by decide)) dX8_skims_156 ?_
              refine g_top (y := w_144 (8)) (congrFun rd_out _) ?_
              refine lv_iload_n hx hb dX8_skims_157 rfl (lv_at hl_133 2 rfl) ?_
              refine lv_iadd hx hb dX8_skims_158 ?_
              refine gm_vst C hW_145 hS_143 8 (by decide) (vlit (by decide)) dX8_skims_159 (fun H_146 locs_147 hW_148 hS_149 => ?_)
              obtain ⟨w_150, ew_150⟩ : ∃ Z9, Z9 = upd w_144 (8) ((w_144 (8)) + v_21) := ⟨_, rfl⟩
              have hW_151 : Wd G (setRow (setRow X 15 (X.1 15)) 16 w_150) H_146 := Wd.cast (by rw [ew_150]; exact st_out) hW_148
              refine lv_aload_n hx hb dX8_skims_160 rfl (lv_at hl_133 4 rfl) ?_
              refine gM_v C hW_151 (hwc hwX8) (mc qw_1481) dX8_skims_161 ?_
              refine lv_iconst (v := 5) hx hb dX8_skims_164 (by decide) ?_
              refine lv_iload hx hb dX8_skims_165 (lv_at hl_133 1 rfl) ?_
              refine lv_iadd hx hb dX8_skims_167 ?_
              refine g_top (y := 7) (by decide) ?_
              refine lv_dup2_11 hx hb dX8_skims_168 rfl rfl ?_
              refine gm_vld C hW_151 7 (by decide) (vlit (by decide)) dX8_skims_169 ?_
              refine g_top (y := w_150 (7)) (congrFun rd_out _) ?_
              refine lv_iload hx hb dX8_skims_170 (lv_at hl_133 0 rfl) ?_
              refine lv_iadd hx hb dX8_skims_172 ?_
              refine gm_vst C hW_151 hS_149 7 (by decide) (vlit (by decide)) dX8_skims_173 (fun H_152 locs_153 hW_154 hS_155 => ?_)
              obtain ⟨w_156, ew_156⟩ : ∃ Z9, Z9 = upd w_150 (7) ((w_150 (7)) + v_131) := ⟨_, rfl⟩
              have hW_157 : Wd G (setRow (setRow X 15 (X.1 15)) 16 w_156) H_152 := Wd.cast (by rw [ew_156]; exact st_out) hW_154
              refine lv_iload_n hx hb dX8_skims_174 rfl (lv_at hl_133 2 rfl) ?_
              refine lv_iload hx hb dX8_skims_175 (lv_at hl_133 0 rfl) ?_
              refine lv_iadd hx hb dX8_skims_177 ?_
              exact g_iret C hr hlk hW_157 hS_155 dX8_skims_178 (by subst ew_156; subst ew_150; subst ew_144; subst ew_138; subst ev_131; subst ev_21; exact ⟨(by first | rfl | (simp only [oM_skims, clf (show f_10 < 2 ^ 31 by omega), b_9, b_26, b_35, b_38, b_41, b_103, if_true, if_false]; first | done | rfl)), (by first | rfl | (simp only [oM_skims, clf (show f_10 < 2 ^ 31 by omega), b_9, b_26, b_35, b_38, b_41, b_103, if_true, if_false]; first | done | rfl))⟩)
        · refine lv_iload hx hb dX8_skims_84 (lv_at hl_37 0 rfl) ?_
          refine lv_istore (lv' := [(4, .int 1), (5, .int 1), (3, .int v_21), (2, .int (nI (9 + 6 * f_10))), (0, .ref (ad G 723)), (1, .int (nI f_10))]) hx hb dX8_skims_86 hl_37 (by decide) rfl (fun ls_158 hl_159 => ?_)
          refine lv_iinc (v := 2) (lv' := [(5, .int 2), (4, .int 1), (3, .int v_21), (2, .int (nI (9 + 6 * f_10))), (0, .ref (ad G 723)), (1, .int (nI f_10))]) hx hb dX8_skims_88 hl_159 (k := 1) rfl (by decide) (by decide) rfl (fun ls_160 hl_161 => ?_)
          refine lv_goto (tgt := 57) hx hb dX8_skims_91 (by decide) ?_
          refine lv_iload hx hb dX8_skims_57 (lv_at hl_161 0 rfl) ?_
          refine lv_iconst (v := 3) hx hb dX8_skims_59 (by decide) ?_
          refine lv_icmp_ge (tgt := 94) hx hb dX8_skims_60 (by decide) (fun h9 => absurd h9 (by decide)) (fun _ => ?_)
          refine lv_aload_n hx hb dX8_skims_63 rfl (lv_at hl_161 4 rfl) ?_
          refine gM_v C hW_32 (hwc hwX8) (mc qw_1481) dX8_skims_64 ?_
          refine lv_iload_n hx hb dX8_skims_67 rfl (lv_at hl_161 3 rfl) ?_
          refine lv_iload hx hb dX8_skims_68 (lv_at hl_161 0 rfl) ?_
          refine lv_iadd hx hb dX8_skims_70 ?_
          refine g_top (y := nI ((9 + 6 * f_10) + 2)) (nI_add (9 + 6 * f_10) 2) ?_
          refine gm_vld C hW_32 ((9 + 6 * f_10) + 2) (nI_clamp (by omega)) (vp_in_nI (show (9 + 6 * f_10) + 2 < 128 by omega) (by decide)) dX8_skims_71 ?_
          refine g_top (y := X.1 16 ((9 + 6 * f_10) + 2)) (congrFun rd_out _) ?_
          refine lv_aload_n hx hb dX8_skims_72 rfl (lv_at hl_161 4 rfl) ?_
          refine gM_v C hW_32 (hwc hwX8) (mc qw_1481) dX8_skims_73 ?_
          refine lv_iload_n hx hb dX8_skims_76 rfl (lv_at hl_161 3 rfl) ?_
          refine lv_iload hx hb dX8_skims_77 (lv_at hl_161 1 rfl) ?_
          refine lv_iadd hx hb dX8_skims_79 ?_
          refine g_top (y := nI ((9 + 6 * f_10) + 1)) (nI_add (9 + 6 * f_10) 1) ?_
          refine gm_vld C hW_32 ((9 + 6 * f_10) + 1) (nI_clamp (by omega)) (vp_in_nI (show (9 + 6 * f_10) + 1 < 128 by omega) (by decide)) dX8_skims_80 ?_
          refine g_top (y := X.1 16 ((9 + 6 * f_10) + 1)) (congrFun rd_out _) ?_
          refine lv_icmp_le (tgt := 88) hx hb dX8_skims_81 (by decide) (fun b_162 => ?_) (fun b_162 => ?_)
          · refine lv_iinc (v := 3) (lv' := [(5, .int 3), (4, .int 1), (3, .int v_21), (2, .int (nI (9 + 6 * f_10))), (0, .ref (ad G 723)), (1, .int (nI f_10))]) hx hb dX8_skims_88 hl_161 (k := 0) rfl (by decide) (by decide) rfl (fun ls_163 hl_164 => ?_)
            refine lv_goto (tgt := 57) hx hb dX8_skims_91 (by decide) ?_
            refine lv_iload hx hb dX8_skims_57 (lv_at hl_164 0 rfl) ?_
            refine lv_iconst (v := 3) hx hb dX8_skims_59 (by decide) ?_
            refine lv_icmp_ge (tgt := 94) hx hb dX8_skims_60 (by decide) (fun _ => ?_) (fun h9 => absurd h9 (by decide))
            refine lv_iload_n hx hb dX8_skims_94 rfl (lv_at hl_164 2 rfl) ?_
            refine lv_iconst (v := 4) hx hb dX8_skims_95 (by decide) ?_
            refine lv_idiv hx hb dX8_skims_96 (by decide) ?_
            refine lv_aload_n hx hb dX8_skims_97 rfl (lv_at hl_164 4 rfl) ?_
            refine gM_v C hW_32 (hwc hwX8) (mc qw_1481) dX8_skims_98 ?_
            refine lv_iload_n hx hb dX8_skims_101 rfl (lv_at hl_164 3 rfl) ?_
            refine lv_iload hx hb dX8_skims_102 (lv_at hl_164 1 rfl) ?_
            refine lv_iadd hx hb dX8_skims_104 ?_
            refine g_top (y := nI ((9 + 6 * f_10) + 1)) (nI_add (9 + 6 * f_10) 1) ?_
            refine gm_vld C hW_32 ((9 + 6 * f_10) + 1) (nI_clamp (by omega)) (vp_in_nI (show (9 + 6 * f_10) + 1 < 128 by omega) (by decide)) dX8_skims_105 ?_
            refine g_top (y := X.1 16 ((9 + 6 * f_10) + 1)) (congrFun rd_out _) ?_
            refine lv_icmp_ge (tgt := 115) hx hb dX8_skims_106 (by decide) (fun b_165 => ?_) (fun b_165 => ?_)
            · refine lv_aload_n hx hb dX8_skims_115 rfl (lv_at hl_164 4 rfl) ?_
              refine gM_v C hW_32 (hwc hwX8) (mc qw_1481) dX8_skims_116 ?_
              refine lv_iload_n hx hb dX8_skims_119 rfl (lv_at hl_164 3 rfl) ?_
              refine lv_iload hx hb dX8_skims_120 (lv_at hl_164 1 rfl) ?_
              refine lv_iadd hx hb dX8_skims_122 ?_
              refine g_top (y := nI ((9 + 6 * f_10) + 1)) (nI_add (9 + 6 * f_10) 1) ?_
              refine gm_vld C hW_32 ((9 + 6 * f_10) + 1) (nI_clamp (by omega)) (vp_in_nI (show (9 + 6 * f_10) + 1 < 128 by omega) (by decide)) dX8_skims_123 ?_
              refine g_top (y := X.1 16 ((9 + 6 * f_10) + 1)) (congrFun rd_out _) ?_
              refine lv_topi (fun v_166 ev_166 => ?_)
              refine lv_istore (lv' := [(5, .int v_166), (4, .int 1), (3, .int v_21), (2, .int (nI (9 + 6 * f_10))), (0, .ref (ad G 723)), (1, .int (nI f_10))]) hx hb dX8_skims_124 hl_164 (by decide) rfl (fun ls_167 hl_168 => ?_)
              refine lv_aload_n hx hb dX8_skims_126 rfl (lv_at hl_168 4 rfl) ?_
              refine gM_v C hW_32 (hwc hwX8) (mc qw_1481) dX8_skims_127 ?_
              refine lv_iload_n hx hb dX8_skims_130 rfl (lv_at hl_168 3 rfl) ?_
              refine lv_iconst (v := 3) hx hb dX8_skims_131 (by decide) ?_
              refine lv_iadd hx hb dX8_skims_132 ?_
              refine g_top (y := nI ((9 + 6 * f_10) + 3)) (nI_add (9 + 6 * f_10) 3) ?_
              refine lv_iconst (v := 0) hx hb dX8_skims_133 (by decide) ?_
              refine gm_vst C hW_32 hS_33 ((9 + 6 * f_10) + 3) (nI_clamp (by omega)) (vp_in_nI (show (9 + 6 * f_10) + 3 < 128 by omega) (by decide)) dX8_skims_134 (fun H_169 locs_170 hW_171 hS_172 => ?_)
              obtain ⟨w_173, ew_173⟩ : ∃ Z9, Z9 = upd (X.1 16) ((9 + 6 * f_10) + 3) 0 := ⟨_, rfl⟩
              have hW_174 : Wd G (setRow (setRow X 15 (X.1 15)) 16 w_173) H_169 := Wd.cast (by rw [ew_173]; exact st_out) hW_171
              refine lv_aload_n hx hb dX8_skims_135 rfl (lv_at hl_168 4 rfl) ?_
              refine gM_v C hW_174 (hwc hwX8) (mc qw_1481) dX8_skims_136 ?_
              refine lv_iload_n hx hb dX8_skims_139 rfl (lv_at hl_168 3 rfl) ?_
              refine lv_iload hx hb dX8_skims_140 (lv_at hl_168 1 rfl) ?_
              refine lv_iadd hx hb dX8_skims_142 ?_
              refine g_top (y := nI ((9 + 6 * f_10) + 1)) (nI_add (9 + 6 * f_10) 1) ?_
              refine lv_dup2_11 hx hb dX8_skims_143 rfl rfl ?_
              refine gm_vld C hW_174 ((9 + 6 * f_10) + 1) (nI_clamp (by omega)) (vp_in_nI (show (9 + 6 * f_10) + 1 < 128 by omega) (by decide)) dX8_skims_144 ?_
              refine g_top (y := w_173 ((9 + 6 * f_10) + 1)) (congrFun rd_out _) ?_
              refine lv_iload hx hb dX8_skims_145 (lv_at hl_168 0 rfl) ?_
              refine lv_isub hx hb dX8_skims_147 ?_
              refine gm_vst C hW_174 hS_172 ((9 + 6 * f_10) + 1) (nI_clamp (by omega)) (vp_in_nI (show (9 + 6 * f_10) + 1 < 128 by omega) (by decide)) dX8_skims_148 (fun H_175 locs_176 hW_177 hS_178 => ?_)
              obtain ⟨w_179, ew_179⟩ : ∃ Z9, Z9 = upd w_173 ((9 + 6 * f_10) + 1) ((w_173 ((9 + 6 * f_10) + 1)) - v_166) := ⟨_, rfl⟩
              have hW_180 : Wd G (setRow (setRow X 15 (X.1 15)) 16 w_179) H_175 := Wd.cast (by rw [ew_179]; exact st_out) hW_177
              refine lv_aload_n hx hb dX8_skims_149 rfl (lv_at hl_168 4 rfl) ?_
              refine gM_v C hW_180 (hwc hwX8) (mc qw_1481) dX8_skims_150 ?_
              refine lv_bipush (v := 8) hx hb dX8_skims_153 (by decide) ?_
              refine lv_dup2_11 hx hb dX8_skims_155 rfl rfl ?_
              refine gm_vld C hW_180 8 (by decide) (vlit (by decide)) dX8_skims_156 ?_
              refine g_top (y := w_179 (8)) (congrFun rd_out _) ?_
              refine lv_iload_n hx hb dX8_skims_157 rfl (lv_at hl_168 2 rfl) ?_
              refine lv_iadd hx hb dX8_skims_158 ?_
              refine gm_vst C hW_180 hS_178 8 (by decide) (vlit (by decide)) dX8_skims_159 (fun H_181 locs_182 hW_183 hS_184 => ?_)
              obtain ⟨w_185, ew_185⟩ : ∃ Z9, Z9 = upd w_179 (8) ((w_179 (8)) + v_21) := ⟨_, rfl⟩
              have hW_186 : Wd G (setRow (setRow X 15 (X.1 15)) 16 w_185) H_181 := Wd.cast (by rw [ew_185]; exact st_out) hW_183
              refine lv_aload_n hx hb dX8_skims_160 rfl (lv_at hl_168 4 rfl) ?_
              refine gM_v C hW_186 (hwc hwX8) (mc qw_1481) dX8_skims_161 ?_
              refine lv_iconst (v := 5) hx hb dX8_skims_164 (by decide) ?_
              refine lv_iload hx hb dX8_skims_165 (lv_at hl_168 1 rfl) ?_
              refine lv_iadd hx hb dX8_skims_167 ?_
              refine g_top (y := 6) (by decide) ?_
              refine lv_dup2_11 hx hb dX8_skims_168 rfl rfl ?_
              refine gm_vld C hW_186 6 (by decide) (vlit (by decide)) dX8_skims_169 ?_
              refine g_top (y := w_185 (6)) (congrFun rd_out _) ?_
              refine lv_iload hx hb dX8_skims_170 (lv_at hl_168 0 rfl) ?_
              refine lv_iadd hx hb dX8_skims_172 ?_
              refine gm_vst C hW_186 hS_184 6 (by decide) (vlit (by decide)) dX8_skims_173 (fun H_187 locs_188 hW_189 hS_190 => ?_)
              obtain ⟨w_191, ew_191⟩ : ∃ Z9, Z9 = upd w_185 (6) ((w_185 (6)) + v_166) := ⟨_, rfl⟩
              have hW_192 : Wd G (setRow (setRow X 15 (X.1 15)) 16 w_191) H_187 := Wd.cast (by rw [ew_191]; exact st_out) hW_189
              refine lv_iload_n hx hb dX8_skims_174 rfl (lv_at hl_168 2 rfl) ?_
              refine lv_iload hx hb dX8_skims_175 (lv_at hl_168 0 rfl) ?_
              refine lv_iadd hx hb dX8_skims_177 ?_
              exact g_iret C hr hlk hW_192 hS_190 dX8_skims_178 (by subst ew_191; subst ew_185; subst ew_179; subst ew_173; subst ev_166; subst ev_21; exact ⟨(by first | rfl | (simp only [oM_skims, clf (show f_10 < 2 ^ 31 by omega), b_9, b_26, b_35, b_38, b_162, b_165, if_true, if_false]; first | done | rfl)), (by first | rfl | (simp only [oM_skims, clf (show f_10 < 2 ^ 31 by omega), b_9, b_26, b_35, b_38, b_162, b_165, if_true, if_false]; first | done | rfl))⟩)
            · refine lv_iload_n hx hb dX8_skims_109 rfl (lv_at hl_164 2 rfl) ?_
              refine lv_iconst (v := 4) hx hb dX8_skims_110 (by decide) ?_
              refine lv_idiv hx hb dX8_skims_111 (by decide) ?_
              refine lv_goto (tgt := 124) hx hb dX8_skims_112 (by decide) ?_
              refine lv_topi (fun v_193 ev_193 => ?_)
              refine lv_istore (lv' := [(5, .int v_193), (4, .int 1), (3, .int v_21), (2, .int (nI (9 + 6 * f_10))), (0, .ref (ad G 723)), (1, .int (nI f_10))]) hx hb dX8_skims_124 hl_164 (by decide) rfl (fun ls_194 hl_195 => ?_)
              refine lv_aload_n hx hb dX8_skims_126 rfl (lv_at hl_195 4 rfl) ?_
              refine gM_v C hW_32 (hwc hwX8) (mc qw_1481) dX8_skims_127 ?_
              refine lv_iload_n hx hb dX8_skims_130 rfl (lv_at hl_195 3 rfl) ?_
              refine lv_iconst (v := 3) hx hb dX8_skims_131 (by decide) ?_
              refine lv_iadd hx hb dX8_skims_132 ?_
              refine g_top (y := nI ((9 + 6 * f_10) + 3)) (nI_add (9 + 6 * f_10) 3) ?_
              refine lv_iconst (v := 0) hx hb dX8_skims_133 (by decide) ?_
              refine gm_vst C hW_32 hS_33 ((9 + 6 * f_10) + 3) (nI_clamp (by omega)) (vp_in_nI (show (9 + 6 * f_10) + 3 < 128 by omega) (by decide)) dX8_skims_134 (fun H_196 locs_197 hW_198 hS_199 => ?_)
              obtain ⟨w_200, ew_200⟩ : ∃ Z9, Z9 = upd (X.1 16) ((9 + 6 * f_10) + 3) 0 := ⟨_, rfl⟩
              have hW_201 : Wd G (setRow (setRow X 15 (X.1 15)) 16 w_200) H_196 := Wd.cast (by rw [ew_200]; exact st_out) hW_198
              refine lv_aload_n hx hb dX8_skims_135 rfl (lv_at hl_195 4 rfl) ?_
              refine gM_v C hW_201 (hwc hwX8) (mc qw_1481) dX8_skims_136 ?_
              refine lv_iload_n hx hb dX8_skims_139 rfl (lv_at hl_195 3 rfl) ?_
              refine lv_iload hx hb dX8_skims_140 (lv_at hl_195 1 rfl) ?_
              refine lv_iadd hx hb dX8_skims_142 ?_
              refine g_top (y := nI ((9 + 6 * f_10) + 1)) (nI_add (9 + 6 * f_10) 1) ?_
              refine lv_dup2_11 hx hb dX8_skims_143 rfl rfl ?_
              refine gm_vld C hW_201 ((9 + 6 * f_10) + 1) (nI_clamp (by omega)) (vp_in_nI (show (9 + 6 * f_10) + 1 < 128 by omega) (by decide)) dX8_skims_144 ?_
              refine g_top (y := w_200 ((9 + 6 * f_10) + 1)) (congrFun rd_out _) ?_
              refine lv_iload hx hb dX8_skims_145 (lv_at hl_195 0 rfl) ?_
              refine lv_isub hx hb dX8_skims_147 ?_
              refine gm_vst C hW_201 hS_199 ((9 + 6 * f_10) + 1) (nI_clamp (by omega)) (vp_in_nI (show (9 + 6 * f_10) + 1 < 128 by omega) (by decide)) dX8_skims_148 (fun H_202 locs_203 hW_204 hS_205 => ?_)
              obtain ⟨w_206, ew_206⟩ : ∃ Z9, Z9 = upd w_200 ((9 + 6 * f_10) + 1) ((w_200 ((9 + 6 * f_10) + 1)) - v_193) := ⟨_, rfl⟩
              have hW_207 : Wd G (setRow (setRow X 15 (X.1 15)) 16 w_206) H_202 := Wd.cast (by rw [ew_206]; exact st_out) hW_204
              refine lv_aload_n hx hb dX8_skims_149 rfl (lv_at hl_195 4 rfl) ?_
              refine gM_v C hW_207 (hwc hwX8) (mc qw_1481) dX8_skims_150 ?_
              refine lv_bipush (v := 8) hx hb dX8_skims_153 (by decide) ?_
              refine lv_dup2_11 hx hb dX8_skims_155 rfl rfl ?_
              refine gm_vld C hW_207 8 (by decide) (vlit (by decide)) dX8_skims_156 ?_
              refine g_top (y := w_206 (8)) (congrFun rd_out _) ?_
              refine lv_iload_n hx hb dX8_skims_157 rfl (lv_at hl_195 2 rfl) ?_
              refine lv_iadd hx hb dX8_skims_158 ?_
              refine gm_vst C hW_207 hS_205 8 (by decide) (vlit (by decide)) dX8_skims_159 (fun H_208 locs_209 hW_210 hS_211 => ?_)
              obtain ⟨w_212, ew_212⟩ : ∃ Z9, Z9 = upd w_206 (8) ((w_206 (8)) + v_21) := ⟨_, rfl⟩
              have hW_213 : Wd G (setRow (setRow X 15 (X.1 15)) 16 w_212) H_208 := Wd.cast (by rw [ew_212]; exact st_out) hW_210
              refine lv_aload_n hx hb dX8_skims_160 rfl (lv_at hl_195 4 rfl) ?_
              refine gM_v C hW_213 (hwc hwX8) (mc qw_1481) dX8_skims_161 ?_
              refine lv_iconst (v := 5) hx hb dX8_skims_164 (by decide) ?_
              refine lv_iload hx hb dX8_skims_165 (lv_at hl_195 1 rfl) ?_
              refine lv_iadd hx hb dX8_skims_167 ?_
              refine g_top (y := 6) (by decide) ?_
              refine lv_dup2_11 hx hb dX8_skims_168 rfl rfl ?_
              refine gm_vld C hW_213 6 (by decide) (vlit (by decide)) dX8_skims_169 ?_
              refine g_top (y := w_212 (6)) (congrFun rd_out _) ?_
              refine lv_iload hx hb dX8_skims_170 (lv_at hl_195 0 rfl) ?_
              refine lv_iadd hx hb dX8_skims_172 ?_
              refine gm_vst C hW_213 hS_211 6 (by decide) (vlit (by decide)) dX8_skims_173 (fun H_214 locs_215 hW_216 hS_217 => ?_)
              obtain ⟨w_218, ew_218⟩ : ∃ Z9, Z9 = upd w_212 (6) ((w_212 (6)) + v_193) := ⟨_, rfl⟩
              have hW_219 : Wd G (setRow (setRow X 15 (X.1 15)) 16 w_218) H_214 := Wd.cast (by rw [ew_218]; exact st_out) hW_216
              refine lv_iload_n hx hb dX8_skims_174 rfl (lv_at hl_195 2 rfl) ?_
              refine lv_iload hx hb dX8_skims_175 (lv_at hl_195 0 rfl) ?_
              refine lv_iadd hx hb dX8_skims_177 ?_
              exact g_iret C hr hlk hW_219 hS_217 dX8_skims_178 (by subst ew_218; subst ew_212; subst ew_206; subst ew_200; subst ev_193; subst ev_21; exact ⟨(by first | rfl | (simp only [oM_skims, clf (show f_10 < 2 ^ 31 by omega), b_9, b_26, b_35, b_38, b_162, b_165, if_true, if_false]; first | done | rfl)), (by first | rfl | (simp only [oM_skims, clf (show f_10 < 2 ^ 31 by omega), b_9, b_26, b_35, b_38, b_162, b_165, if_true, if_false]; first | done | rfl))⟩)
          · refine lv_iload hx hb dX8_skims_84 (lv_at hl_161 0 rfl) ?_
            refine lv_istore (lv' := [(4, .int 2), (5, .int 2), (3, .int v_21), (2, .int (nI (9 + 6 * f_10))), (0, .ref (ad G 723)), (1, .int (nI f_10))]) hx hb dX8_skims_86 hl_161 (by decide) rfl (fun ls_220 hl_221 => ?_)
            refine lv_iinc (v := 3) (lv' := [(5, .int 3), (4, .int 2), (3, .int v_21), (2, .int (nI (9 + 6 * f_10))), (0, .ref (ad G 723)), (1, .int (nI f_10))]) hx hb dX8_skims_88 hl_221 (k := 1) rfl (by decide) (by decide) rfl (fun ls_222 hl_223 => ?_)
            refine lv_goto (tgt := 57) hx hb dX8_skims_91 (by decide) ?_
            refine lv_iload hx hb dX8_skims_57 (lv_at hl_223 0 rfl) ?_
            refine lv_iconst (v := 3) hx hb dX8_skims_59 (by decide) ?_
            refine lv_icmp_ge (tgt := 94) hx hb dX8_skims_60 (by decide) (fun _ => ?_) (fun h9 => absurd h9 (by decide))
            refine lv_iload_n hx hb dX8_skims_94 rfl (lv_at hl_223 2 rfl) ?_
            refine lv_iconst (v := 4) hx hb dX8_skims_95 (by decide) ?_
            refine lv_idiv hx hb dX8_skims_96 (by decide) ?_
            refine lv_aload_n hx hb dX8_skims_97 rfl (lv_at hl_223 4 rfl) ?_
            refine gM_v C hW_32 (hwc hwX8) (mc qw_1481) dX8_skims_98 ?_
            refine lv_iload_n hx hb dX8_skims_101 rfl (lv_at hl_223 3 rfl) ?_
            refine lv_iload hx hb dX8_skims_102 (lv_at hl_223 1 rfl) ?_
            refine lv_iadd hx hb dX8_skims_104 ?_
            refine g_top (y := nI ((9 + 6 * f_10) + 2)) (nI_add (9 + 6 * f_10) 2) ?_
            refine gm_vld C hW_32 ((9 + 6 * f_10) + 2) (nI_clamp (by omega)) (vp_in_nI (show (9 + 6 * f_10) + 2 < 128 by omega) (by decide)) dX8_skims_105 ?_
            refine g_top (y := X.1 16 ((9 + 6 * f_10) + 2)) (congrFun rd_out _) ?_
            refine lv_icmp_ge (tgt := 115) hx hb dX8_skims_106 (by decide) (fun b_224 => ?_) (fun b_224 => ?_)
            · refine lv_aload_n hx hb dX8_skims_115 rfl (lv_at hl_223 4 rfl) ?_
              refine gM_v C hW_32 (hwc hwX8) (mc qw_1481) dX8_skims_116 ?_
              refine lv_iload_n hx hb dX8_skims_119 rfl (lv_at hl_223 3 rfl) ?_
              refine lv_iload hx hb dX8_skims_120 (lv_at hl_223 1 rfl) ?_
              refine lv_iadd hx hb dX8_skims_122 ?_
              refine g_top (y := nI ((9 + 6 * f_10) + 2)) (nI_add (9 + 6 * f_10) 2) ?_
              refine gm_vld C hW_32 ((9 + 6 * f_10) + 2) (nI_clamp (by omega)) (vp_in_nI (show (9 + 6 * f_10) + 2 < 128 by omega) (by decide)) dX8_skims_123 ?_
              refine g_top (y := X.1 16 ((9 + 6 * f_10) + 2)) (congrFun rd_out _) ?_
              refine lv_topi (fun v_225 ev_225 => ?_)
              refine lv_istore (lv' := [(5, .int v_225), (4, .int 2), (3, .int v_21), (2, .int (nI (9 + 6 * f_10))), (0, .ref (ad G 723)), (1, .int (nI f_10))]) hx hb dX8_skims_124 hl_223 (by decide) rfl (fun ls_226 hl_227 => ?_)
              refine lv_aload_n hx hb dX8_skims_126 rfl (lv_at hl_227 4 rfl) ?_
              refine gM_v C hW_32 (hwc hwX8) (mc qw_1481) dX8_skims_127 ?_
              refine lv_iload_n hx hb dX8_skims_130 rfl (lv_at hl_227 3 rfl) ?_
              refine lv_iconst (v := 3) hx hb dX8_skims_131 (by decide) ?_
              refine lv_iadd hx hb dX8_skims_132 ?_
              refine g_top (y := nI ((9 + 6 * f_10) + 3)) (nI_add (9 + 6 * f_10) 3) ?_
              refine lv_iconst (v := 0) hx hb dX8_skims_133 (by decide) ?_
              refine gm_vst C hW_32 hS_33 ((9 + 6 * f_10) + 3) (nI_clamp (by omega)) (vp_in_nI (show (9 + 6 * f_10) + 3 < 128 by omega) (by decide)) dX8_skims_134 (fun H_228 locs_229 hW_230 hS_231 => ?_)
              obtain ⟨w_232, ew_232⟩ : ∃ Z9, Z9 = upd (X.1 16) ((9 + 6 * f_10) + 3) 0 := ⟨_, rfl⟩
              have hW_233 : Wd G (setRow (setRow X 15 (X.1 15)) 16 w_232) H_228 := Wd.cast (by rw [ew_232]; exact st_out) hW_230
              refine lv_aload_n hx hb dX8_skims_135 rfl (lv_at hl_227 4 rfl) ?_
              refine gM_v C hW_233 (hwc hwX8) (mc qw_1481) dX8_skims_136 ?_
              refine lv_iload_n hx hb dX8_skims_139 rfl (lv_at hl_227 3 rfl) ?_
              refine lv_iload hx hb dX8_skims_140 (lv_at hl_227 1 rfl) ?_
              refine lv_iadd hx hb dX8_skims_142 ?_
              refine g_top (y := nI ((9 + 6 * f_10) + 2)) (nI_add (9 + 6 * f_10) 2) ?_
              refine lv_dup2_11 hx hb dX8_skims_143 rfl rfl ?_
              refine gm_vld C hW_233 ((9 + 6 * f_10) + 2) (nI_clamp (by omega)) (vp_in_nI (show (9 + 6 * f_10) + 2 < 128 by omega) (by decide)) dX8_skims_144 ?_
              refine g_top (y := w_232 ((9 + 6 * f_10) + 2)) (congrFun rd_out _) ?_
              refine lv_iload hx hb dX8_skims_145 (lv_at hl_227 0 rfl) ?_
              refine lv_isub hx hb dX8_skims_147 ?_
              refine gm_vst C hW_233 hS_231 ((9 + 6 * f_10) + 2) (nI_clamp (by omega)) (vp_in_nI (show (9 + 6 * f_10) + 2 < 128 by omega) (by decide)) dX8_skims_148 (fun H_234 locs_235 hW_236 hS_237 => ?_)
              obtain ⟨w_238, ew_238⟩ : ∃ Z9, Z9 = upd w_232 ((9 + 6 * f_10) + 2) ((w_232 ((9 + 6 * f_10) + 2)) - v_225) := ⟨_, rfl⟩
              have hW_239 : Wd G (setRow (setRow X 15 (X.1 15)) 16 w_238) H_234 := Wd.cast (by rw [ew_238]; exact st_out) hW_236
              refine lv_aload_n hx hb dX8_skims_149 rfl (lv_at hl_227 4 rfl) ?_
              refine gM_v C hW_239 (hwc hwX8) (mc qw_1481) dX8_skims_150 ?_
              refine lv_bipush (v := 8) hx hb dX8_skims_153 (by decide) ?_
              refine lv_dup2_11 hx hb dX8_skims_155 rfl rfl ?_
              refine gm_vld C hW_239 8 (by decide) (vlit (by decide)) dX8_skims_156 ?_
              refine g_top (y := w_238 (8)) (congrFun rd_out _) ?_
              refine lv_iload_n hx hb dX8_skims_157 rfl (lv_at hl_227 2 rfl) ?_
              refine lv_iadd hx hb dX8_skims_158 ?_
              refine gm_vst C hW_239 hS_237 8 (by decide) (vlit (by decide)) dX8_skims_159 (fun H_240 locs_241 hW_242 hS_243 => ?_)
              obtain ⟨w_244, ew_244⟩ : ∃ Z9, Z9 = upd w_238 (8) ((w_238 (8)) + v_21) := ⟨_, rfl⟩
              have hW_245 : Wd G (setRow (setRow X 15 (X.1 15)) 16 w_244) H_240 := Wd.cast (by rw [ew_244]; exact st_out) hW_242
              refine lv_aload_n hx hb dX8_skims_160 rfl (lv_at hl_227 4 rfl) ?_
              refine gM_v C hW_245 (hwc hwX8) (mc qw_1481) dX8_skims_161 ?_
              refine lv_iconst (v := 5) hx hb dX8_skims_164 (by decide) ?_
              refine lv_iload hx hb dX8_skims_165 (lv_at hl_227 1 rfl) ?_
              refine lv_iadd hx hb dX8_skims_167 ?_
              refine g_top (y := 7) (by decide) ?_
              refine lv_dup2_11 hx hb dX8_skims_168 rfl rfl ?_
              refine gm_vld C hW_245 7 (by decide) (vlit (by decide)) dX8_skims_169 ?_
              refine g_top (y := w_244 (7)) (congrFun rd_out _) ?_
              refine lv_iload hx hb dX8_skims_170 (lv_at hl_227 0 rfl) ?_
              refine lv_iadd hx hb dX8_skims_172 ?_
              refine gm_vst C hW_245 hS_243 7 (by decide) (vlit (by decide)) dX8_skims_173 (fun H_246 locs_247 hW_248 hS_249 => ?_)
              obtain ⟨w_250, ew_250⟩ : ∃ Z9, Z9 = upd w_244 (7) ((w_244 (7)) + v_225) := ⟨_, rfl⟩
              have hW_251 : Wd G (setRow (setRow X 15 (X.1 15)) 16 w_250) H_246 := Wd.cast (by rw [ew_250]; exact st_out) hW_248
              refine lv_iload_n hx hb dX8_skims_174 rfl (lv_at hl_227 2 rfl) ?_
              refine lv_iload hx hb dX8_skims_175 (lv_at hl_227 0 rfl) ?_
              refine lv_iadd hx hb dX8_skims_177 ?_
              exact g_iret C hr hlk hW_251 hS_249 dX8_skims_178 (by subst ew_250; subst ew_244; subst ew_238; subst ew_232; subst ev_225; subst ev_21; exact ⟨(by first | rfl | (simp only [oM_skims, clf (show f_10 < 2 ^ 31 by omega), b_9, b_26, b_35, b_38, b_162, b_224, if_true, if_false]; first | done | rfl)), (by first | rfl | (simp only [oM_skims, clf (show f_10 < 2 ^ 31 by omega), b_9, b_26, b_35, b_38, b_162, b_224, if_true, if_false]; first | done | rfl))⟩)
            · refine lv_iload_n hx hb dX8_skims_109 rfl (lv_at hl_223 2 rfl) ?_
              refine lv_iconst (v := 4) hx hb dX8_skims_110 (by decide) ?_
              refine lv_idiv hx hb dX8_skims_111 (by decide) ?_
              refine lv_goto (tgt := 124) hx hb dX8_skims_112 (by decide) ?_
              refine lv_topi (fun v_252 ev_252 => ?_)
              refine lv_istore (lv' := [(5, .int v_252), (4, .int 2), (3, .int v_21), (2, .int (nI (9 + 6 * f_10))), (0, .ref (ad G 723)), (1, .int (nI f_10))]) hx hb dX8_skims_124 hl_223 (by decide) rfl (fun ls_253 hl_254 => ?_)
              refine lv_aload_n hx hb dX8_skims_126 rfl (lv_at hl_254 4 rfl) ?_
              refine gM_v C hW_32 (hwc hwX8) (mc qw_1481) dX8_skims_127 ?_
              refine lv_iload_n hx hb dX8_skims_130 rfl (lv_at hl_254 3 rfl) ?_
              refine lv_iconst (v := 3) hx hb dX8_skims_131 (by decide) ?_
              refine lv_iadd hx hb dX8_skims_132 ?_
              refine g_top (y := nI ((9 + 6 * f_10) + 3)) (nI_add (9 + 6 * f_10) 3) ?_
              refine lv_iconst (v := 0) hx hb dX8_skims_133 (by decide) ?_
              refine gm_vst C hW_32 hS_33 ((9 + 6 * f_10) + 3) (nI_clamp (by omega)) (vp_in_nI (show (9 + 6 * f_10) + 3 < 128 by omega) (by decide)) dX8_skims_134 (fun H_255 locs_256 hW_257 hS_258 => ?_)
              obtain ⟨w_259, ew_259⟩ : ∃ Z9, Z9 = upd (X.1 16) ((9 + 6 * f_10) + 3) 0 := ⟨_, rfl⟩
              have hW_260 : Wd G (setRow (setRow X 15 (X.1 15)) 16 w_259) H_255 := Wd.cast (by rw [ew_259]; exact st_out) hW_257
              refine lv_aload_n hx hb dX8_skims_135 rfl (lv_at hl_254 4 rfl) ?_
              refine gM_v C hW_260 (hwc hwX8) (mc qw_1481) dX8_skims_136 ?_
              refine lv_iload_n hx hb dX8_skims_139 rfl (lv_at hl_254 3 rfl) ?_
              refine lv_iload hx hb dX8_skims_140 (lv_at hl_254 1 rfl) ?_
              refine lv_iadd hx hb dX8_skims_142 ?_
              refine g_top (y := nI ((9 + 6 * f_10) + 2)) (nI_add (9 + 6 * f_10) 2) ?_
              refine lv_dup2_11 hx hb dX8_skims_143 rfl rfl ?_
              refine gm_vld C hW_260 ((9 + 6 * f_10) + 2) (nI_clamp (by omega)) (vp_in_nI (show (9 + 6 * f_10) + 2 < 128 by omega) (by decide)) dX8_skims_144 ?_
              refine g_top (y := w_259 ((9 + 6 * f_10) + 2)) (congrFun rd_out _) ?_
              refine lv_iload hx hb dX8_skims_145 (lv_at hl_254 0 rfl) ?_
              refine lv_isub hx hb dX8_skims_147 ?_
              refine gm_vst C hW_260 hS_258 ((9 + 6 * f_10) + 2) (nI_clamp (by omega)) (vp_in_nI (show (9 + 6 * f_10) + 2 < 128 by omega) (by decide)) dX8_skims_148 (fun H_261 locs_262 hW_263 hS_264 => ?_)
              obtain ⟨w_265, ew_265⟩ : ∃ Z9, Z9 = upd w_259 ((9 + 6 * f_10) + 2) ((w_259 ((9 + 6 * f_10) + 2)) - v_252) := ⟨_, rfl⟩
              have hW_266 : Wd G (setRow (setRow X 15 (X.1 15)) 16 w_265) H_261 := Wd.cast (by rw [ew_265]; exact st_out) hW_263
              refine lv_aload_n hx hb dX8_skims_149 rfl (lv_at hl_254 4 rfl) ?_
              refine gM_v C hW_266 (hwc hwX8) (mc qw_1481) dX8_skims_150 ?_
              refine lv_bipush (v := 8) hx hb dX8_skims_153 (by decide) ?_
              refine lv_dup2_11 hx hb dX8_skims_155 rfl rfl ?_
              refine gm_vld C hW_266 8 (by decide) (vlit (by decide)) dX8_skims_156 ?_
              refine g_top (y := w_265 (8)) (congrFun rd_out _) ?_
              refine lv_iload_n hx hb dX8_skims_157 rfl (lv_at hl_254 2 rfl) ?_
              refine lv_iadd hx hb dX8_skims_158 ?_
              refine gm_vst C hW_266 hS_264 8 (by decide) (vlit (by decide)) dX8_skims_159 (fun H_267 locs_268 hW_269 hS_270 => ?_)
              obtain ⟨w_271, ew_271⟩ : ∃ Z9, Z9 = upd w_265 (8) ((w_265 (8)) + v_21) := ⟨_, rfl⟩
              have hW_272 : Wd G (setRow (setRow X 15 (X.1 15)) 16 w_271) H_267 := Wd.cast (by rw [ew_271]; exact st_out) hW_269
              refine lv_aload_n hx hb dX8_skims_160 rfl (lv_at hl_254 4 rfl) ?_
              refine gM_v C hW_272 (hwc hwX8) (mc qw_1481) dX8_skims_161 ?_
              refine lv_iconst (v := 5) hx hb dX8_skims_164 (by decide) ?_
              refine lv_iload hx hb dX8_skims_165 (lv_at hl_254 1 rfl) ?_
              refine lv_iadd hx hb dX8_skims_167 ?_
              refine g_top (y := 7) (by decide) ?_
              refine lv_dup2_11 hx hb dX8_skims_168 rfl rfl ?_
              refine gm_vld C hW_272 7 (by decide) (vlit (by decide)) dX8_skims_169 ?_
              refine g_top (y := w_271 (7)) (congrFun rd_out _) ?_
              refine lv_iload hx hb dX8_skims_170 (lv_at hl_254 0 rfl) ?_
              refine lv_iadd hx hb dX8_skims_172 ?_
              refine gm_vst C hW_272 hS_270 7 (by decide) (vlit (by decide)) dX8_skims_173 (fun H_273 locs_274 hW_275 hS_276 => ?_)
              obtain ⟨w_277, ew_277⟩ : ∃ Z9, Z9 = upd w_271 (7) ((w_271 (7)) + v_252) := ⟨_, rfl⟩
              have hW_278 : Wd G (setRow (setRow X 15 (X.1 15)) 16 w_277) H_273 := Wd.cast (by rw [ew_277]; exact st_out) hW_275
              refine lv_iload_n hx hb dX8_skims_174 rfl (lv_at hl_254 2 rfl) ?_
              refine lv_iload hx hb dX8_skims_175 (lv_at hl_254 0 rfl) ?_
              refine lv_iadd hx hb dX8_skims_177 ?_
              exact g_iret C hr hlk hW_278 hS_276 dX8_skims_178 (by subst ew_277; subst ew_271; subst ew_265; subst ew_259; subst ev_252; subst ev_21; exact ⟨(by first | rfl | (simp only [oM_skims, clf (show f_10 < 2 ^ 31 by omega), b_9, b_26, b_35, b_38, b_162, b_224, if_true, if_false]; first | done | rfl)), (by first | rfl | (simp only [oM_skims, clf (show f_10 < 2 ^ 31 by omega), b_9, b_26, b_35, b_38, b_162, b_224, if_true, if_false]; first | done | rfl))⟩)
      · refine lv_aload_n hx hb dX8_skims_48 rfl (lv_at hl_25 3 rfl) ?_
        refine lv_iconst (v := 3) hx hb dX8_skims_49 (by decide) ?_
        refine g_calli (va_runV (As := [.int 3]) (rest := []) C.1 (cX8_fail_ok l G (setRow (setRow X 15 (X.1 15)) 16 (X.1 16)) 3) (cwV 1 C.1.2.2.2.2 (gV qw_1571 qw_1573 qw_31 qw_81 qw_1574) rfl rfl rfl (by decide +kernel) ⟨Nat.le_of_ble_eq_true rfl, Nat.le_of_ble_eq_true rfl⟩) (g_rModel C hW_32 hS_33 [.int 3]) rfl rfl hl_25.1 rfl (lv_room (Nat.le_of_ble_eq_true rfl)) dX8_skims_50 ⟨Nat.zero_le _, Nat.zero_le _⟩) hS_33 (fun r_280 Y_281 H_282 locs_283 hW_284 hS_285 h_279 => ?_)
        obtain ⟨h_286, h_279⟩ := h_279
        replace h_286 : r_280 = (oM_fail (X.1 15) 3).1 := h_286
        subst h_286
        replace h_279 : Y_281 = setRow (setRow (setRow X 15 (X.1 15)) 16 (X.1 16)) 15 ((oM_fail (X.1 15) 3).2) := h_279
        obtain ⟨w_287, ew_287⟩ : ∃ Z9, Z9 = (oM_fail (X.1 15) 3).2 := ⟨_, rfl⟩
        have qqw_287 : Y_281 = setRow (setRow (setRow X 15 (X.1 15)) 16 (X.1 16)) 15 w_287 := by rw [h_279, ew_287]
        have hW_288 : Wd G (setRow (setRow X 15 w_287) 16 (X.1 16)) H_282 := Wd.cast ((qqw_287).trans (congrArg (fun Z9 => Z9) (sr_in (by decide) sr_out))) hW_284
        exact g_iret C hr hlk hW_288 hS_285 dX8_skims_53 (by subst ew_287; subst ev_21; exact ⟨(by first | rfl | (simp only [oM_skims, clf (show f_10 < 2 ^ 31 by omega), b_9, b_26, eq_true b_35, if_true, if_false]; first | done | rfl)), (by first | rfl | (simp only [oM_skims, clf (show f_10 < 2 ^ 31 by omega), b_9, b_26, eq_true b_35, if_true, if_false]; first | done | rfl))⟩)
    · refine lv_aload_n hx hb dX8_skims_34 rfl (lv_at hl_25 3 rfl) ?_
      refine lv_iconst (v := 2) hx hb dX8_skims_35 (by decide) ?_
      refine g_calli (va_runV (As := [.int 2]) (rest := []) C.1 (cX8_fail_ok l G (setRow (setRow X 15 (X.1 15)) 16 (X.1 16)) 2) (cwV 1 C.1.2.2.2.2 (gV qw_1571 qw_1573 qw_31 qw_81 qw_1574) rfl rfl rfl (by decide +kernel) ⟨Nat.le_of_ble_eq_true rfl, Nat.le_of_ble_eq_true rfl⟩) (g_rModel C hW_16 hS_17 [.int 2]) rfl rfl hl_25.1 rfl (lv_room (Nat.le_of_ble_eq_true rfl)) dX8_skims_36 ⟨Nat.zero_le _, Nat.zero_le _⟩) hS_17 (fun r_290 Y_291 H_292 locs_293 hW_294 hS_295 h_289 => ?_)
      obtain ⟨h_296, h_289⟩ := h_289
      replace h_296 : r_290 = (oM_fail (X.1 15) 2).1 := h_296
      subst h_296
      replace h_289 : Y_291 = setRow (setRow (setRow X 15 (X.1 15)) 16 (X.1 16)) 15 ((oM_fail (X.1 15) 2).2) := h_289
      obtain ⟨w_297, ew_297⟩ : ∃ Z9, Z9 = (oM_fail (X.1 15) 2).2 := ⟨_, rfl⟩
      have qqw_297 : Y_291 = setRow (setRow (setRow X 15 (X.1 15)) 16 (X.1 16)) 15 w_297 := by rw [h_289, ew_297]
      have hW_298 : Wd G (setRow (setRow X 15 w_297) 16 (X.1 16)) H_292 := Wd.cast ((qqw_297).trans (congrArg (fun Z9 => Z9) (sr_in (by decide) sr_out))) hW_294
      exact g_iret C hr hlk hW_298 hS_295 dX8_skims_39 (by subst ew_297; subst ev_21; exact ⟨(by first | rfl | (simp only [oM_skims, clf (show f_10 < 2 ^ 31 by omega), b_9, eq_true b_26, if_true, if_false]; first | done | rfl)), (by first | rfl | (simp only [oM_skims, clf (show f_10 < 2 ^ 31 by omega), b_9, eq_true b_26, if_true, if_false]; first | done | rfl))⟩)
  · refine lv_aload_n hx hb dX8_skims_7 rfl (lv_at hl 0 rfl) ?_
    refine lv_iconst (v := 1) hx hb dX8_skims_8 (by decide) ?_
    refine g_calli (va_runV (As := [.int 1]) (rest := []) C.1 (cX8_fail_ok l G (setRow (setRow X 15 (X.1 15)) 16 (X.1 16)) 1) (cwV 1 C.1.2.2.2.2 (gV qw_1571 qw_1573 qw_31 qw_81 qw_1574) rfl rfl rfl (by decide +kernel) ⟨Nat.le_of_ble_eq_true rfl, Nat.le_of_ble_eq_true rfl⟩) (g_rModel C hW_6 hS_7 [.int 1]) rfl rfl hl.1 rfl (lv_room (Nat.le_of_ble_eq_true rfl)) dX8_skims_9 ⟨Nat.zero_le _, Nat.zero_le _⟩) hS_7 (fun r_300 Y_301 H_302 locs_303 hW_304 hS_305 h_299 => ?_)
    obtain ⟨h_306, h_299⟩ := h_299
    replace h_306 : r_300 = (oM_fail (X.1 15) 1).1 := h_306
    subst h_306
    replace h_299 : Y_301 = setRow (setRow (setRow X 15 (X.1 15)) 16 (X.1 16)) 15 ((oM_fail (X.1 15) 1).2) := h_299
    obtain ⟨w_307, ew_307⟩ : ∃ Z9, Z9 = (oM_fail (X.1 15) 1).2 := ⟨_, rfl⟩
    have qqw_307 : Y_301 = setRow (setRow (setRow X 15 (X.1 15)) 16 (X.1 16)) 15 w_307 := by rw [h_299, ew_307]
    have hW_308 : Wd G (setRow (setRow X 15 w_307) 16 (X.1 16)) H_302 := Wd.cast ((qqw_307).trans (congrArg (fun Z9 => Z9) (sr_in (by decide) sr_out))) hW_304
    exact g_iret C hr hlk hW_308 hS_305 dX8_skims_12 (by subst ew_307; exact ⟨(by first | rfl | (simp only [oM_skims, eq_true b_9, if_true, if_false]; first | done | rfl)), (by first | rfl | (simp only [oM_skims, eq_true b_9, if_true, if_false]; first | done | rfl))⟩)

def oM_taps (w15 : Nat → Int32) (w16 : Nat → Int32) (w20 : Nat → Int32) (w21 : Nat → Int32) (f : Int32) (la : Int32) (n : Int32) : Int32 × ((Nat → Int32) × ((Nat → Int32) × (Nat → Int32))) := if oM_isThree f = 0 then ((oM_fail (w15) 1).1, ((oM_fail (w15) 1).2), w16, w20) else (if oM_isThree la = 0 then ((oM_fail (w15) 1).1, ((oM_fail (w15) 1).2), w16, w20) else (if oM_isIn n 1 40 = 0 then ((oM_fail (w15) 2).1, ((oM_fail (w15) 2).2), w16, w20) else (if n ≤ oM_mass (w16) (9 + 6 * f.toNatClampNeg) then (if oM_isFluid (w16) (w21) (9 + 6 * f.toNatClampNeg) = 0 then ((oM_fail (w15) 4).1, ((oM_fail (w15) 4).2), w16, w20) else (if (oM_mass (w16) (27 + 5 * la.toNatClampNeg)) + n ≤ 40 then ((oM_fills ((oM_takes (w16) (w20) (9 + 6 * f.toNatClampNeg) n).1) ((oM_takes (w16) (w20) (9 + 6 * f.toNatClampNeg) n).2) la.toNatClampNeg (((oM_takes (w16) (w20) (9 + 6 * f.toNatClampNeg) n).1) ((9 + 6 * f.toNatClampNeg) + 4))).1, w15, ((oM_fills ((oM_takes (w16) (w20) (9 + 6 * f.toNatClampNeg) n).1) ((oM_takes (w16) (w20) (9 + 6 * f.toNatClampNeg) n).2) la.toNatClampNeg (((oM_takes (w16) (w20) (9 + 6 * f.toNatClampNeg) n).1) ((9 + 6 * f.toNatClampNeg) + 4))).2), ((oM_takes (w16) (w20) (9 + 6 * f.toNatClampNeg) n).2)) else ((oM_fail (w15) 5).1, ((oM_fail (w15) 5).2), w16, w20))) else ((oM_fail (w15) 3).1, ((oM_fail (w15) 3).2), w16, w20))))
set_option maxHeartbeats 4000000 in
set_option maxRecDepth 100000 in
theorem cX8_taps_ok (l : Launch) (G : GT) (X : St) (f : Int32) (la : Int32) (n : Int32) (hm : MInv (X.1 16)) : MetI l G yX8_taps (wsG yX8_taps cX8_taps 4 (some .int)) (rmz 3 65) [.ref (ad G 723), .int f, .int la, .int n] X (fun res Y => res = (oM_taps (X.1 15) (X.1 16) (X.1 20) (X.1 21) f la n).1 ∧ Y = setRow (setRow (setRow (X) 15 ((oM_taps (X.1 15) (X.1 16) (X.1 20) (X.1 21) f la n).2.1)) 16 ((oM_taps (X.1 15) (X.1 16) (X.1 20) (X.1 21) f la n).2.2.1)) 20 ((oM_taps (X.1 15) (X.1 16) (X.1 20) (X.1 21) f la n).2.2.2)) := by
  refine g_met (cc := cX8_taps) (maxL := 4) (ret := (some .int)) (by decide) rfl (Nat.le_of_ble_eq_true rfl) ?_
  intro p e s m below meth c ls C hr hlk hnm hW hl
  have hx := C.1.1
  have hb := C.1.2.1
  have hS : va_S (Ab G) s.heap s.heap [] := va_S.rf
  have hl : lv_has ls 4 [(0, .ref (ad G 723)), (1, .int f), (2, .int la), (3, .int n)] := hl
  have hW : Wd G (setRow (setRow (setRow (X) 15 (X.1 15)) 16 (X.1 16)) 20 (X.1 20)) s.heap := Wd.cast ((((sr_same (X := setRow (setRow (X) 15 (X.1 15)) 16 (X.1 16)) (r := 20) rfl).trans (sr_same (X := setRow (X) 15 (X.1 15)) (r := 16) rfl)).trans (sr_same (X := X) (r := 15) rfl))).symm hW
  refine lv_iload_n hx hb dX8_taps_0 rfl (lv_at hl 1 rfl) ?_
  refine g_calli (va_runS (As := [.int f]) (rest := []) C.1 (cX8_isThree_ok l G (setRow (setRow (setRow X 15 (X.1 15)) 16 (X.1 16)) 20 (X.1 20)) f) (va_cwS 1 C.1.2.2.2.2 (gS qw_1565 qw_1566 qw_81 qw_1567) rfl rfl rfl (by decide +kernel) ⟨Nat.le_of_ble_eq_true rfl, Nat.le_of_ble_eq_true rfl⟩) (g_pre C hW hS [.int f]) rfl rfl hl.1 rfl (lv_room (Nat.le_of_ble_eq_true rfl)) dX8_taps_1 ⟨Nat.zero_le _, Nat.zero_le _⟩) hS (fun r_2 Y_3 H_4 locs_5 hW_6 hS_7 h_1 => ?_)
  obtain ⟨h_1, hy_8⟩ := h_1
  replace hy_8 := hy_8.symm
  subst hy_8
  replace h_1 : r_2 = oM_isThree f := h_1
  subst h_1
  refine lv_if_eq (tgt := 14) hx hb dX8_taps_4 (by decide) (fun b_9 => ?_) (fun b_9 => ?_)
  · refine lv_aload_n hx hb dX8_taps_14 rfl (lv_at hl 0 rfl) ?_
    refine lv_iconst (v := 1) hx hb dX8_taps_15 (by decide) ?_
    refine g_calli (va_runV (As := [.int 1]) (rest := []) C.1 (cX8_fail_ok l G (setRow (setRow (setRow X 15 (X.1 15)) 16 (X.1 16)) 20 (X.1 20)) 1) (cwV 1 C.1.2.2.2.2 (gV qw_1571 qw_1573 qw_31 qw_81 qw_1574) rfl rfl rfl (by decide +kernel) ⟨Nat.le_of_ble_eq_true rfl, Nat.le_of_ble_eq_true rfl⟩) (g_rModel C hW_6 hS_7 [.int 1]) rfl rfl hl.1 rfl (lv_room (Nat.le_of_ble_eq_true rfl)) dX8_taps_16 ⟨Nat.zero_le _, Nat.zero_le _⟩) hS_7 (fun r_11 Y_12 H_13 locs_14 hW_15 hS_16 h_10 => ?_)
    obtain ⟨h_17, h_10⟩ := h_10
    replace h_17 : r_11 = (oM_fail (X.1 15) 1).1 := h_17
    subst h_17
    replace h_10 : Y_12 = setRow (setRow (setRow (setRow X 15 (X.1 15)) 16 (X.1 16)) 20 (X.1 20)) 15 ((oM_fail (X.1 15) 1).2) := h_10
    obtain ⟨w_18, ew_18⟩ : ∃ Z9, Z9 = (oM_fail (X.1 15) 1).2 := ⟨_, rfl⟩
    have qqw_18 : Y_12 = setRow (setRow (setRow (setRow X 15 (X.1 15)) 16 (X.1 16)) 20 (X.1 20)) 15 w_18 := by rw [h_10, ew_18]
    have hW_19 : Wd G (setRow (setRow (setRow X 15 w_18) 16 (X.1 16)) 20 (X.1 20)) H_13 := Wd.cast ((qqw_18).trans (congrArg (fun Z9 => Z9) (sr_in (by decide) (sr_in (by decide) sr_out)))) hW_15
    exact g_iret C hr hlk hW_19 hS_16 dX8_taps_19 (by subst ew_18; exact ⟨(by first | rfl | (simp only [oM_taps, eq_true b_9, if_true, if_false]; first | done | rfl)), (by first | rfl | (simp only [oM_taps, eq_true b_9, if_true, if_false]; first | done | rfl))⟩)
  · obtain ⟨f_20, hf_20, rfl⟩ := three_in b_9
    refine lv_iload_n hx hb dX8_taps_7 rfl (lv_at hl 2 rfl) ?_
    refine g_calli (va_runS (As := [.int la]) (rest := []) C.1 (cX8_isThree_ok l G (setRow (setRow (setRow X 15 (X.1 15)) 16 (X.1 16)) 20 (X.1 20)) la) (va_cwS 1 C.1.2.2.2.2 (gS qw_1565 qw_1566 qw_81 qw_1567) rfl rfl rfl (by decide +kernel) ⟨Nat.le_of_ble_eq_true rfl, Nat.le_of_ble_eq_true rfl⟩) (g_pre C hW_6 hS_7 [.int la]) rfl rfl hl.1 rfl (lv_room (Nat.le_of_ble_eq_true rfl)) dX8_taps_8 ⟨Nat.zero_le _, Nat.zero_le _⟩) hS_7 (fun r_22 Y_23 H_24 locs_25 hW_26 hS_27 h_21 => ?_)
    obtain ⟨h_21, hy_28⟩ := h_21
    replace hy_28 := hy_28.symm
    subst hy_28
    replace h_21 : r_22 = oM_isThree la := h_21
    subst h_21
    refine lv_if_ne (tgt := 20) hx hb dX8_taps_11 (by decide) (fun b_29 => ?_) (fun b_29 => ?_)
    · obtain ⟨f_30, hf_30, rfl⟩ := three_in b_29
      refine lv_iload_n hx hb dX8_taps_20 rfl (lv_at hl 3 rfl) ?_
      refine lv_iconst (v := 1) hx hb dX8_taps_21 (by decide) ?_
      refine lv_bipush (v := 40) hx hb dX8_taps_22 (by decide) ?_
      refine g_calli (va_runS (As := [.int n, .int 1, .int 40]) (rest := []) C.1 (cX8_isIn_ok l G (setRow (setRow (setRow X 15 (X.1 15)) 16 (X.1 16)) 20 (X.1 20)) n 1 40) (va_cwS 3 C.1.2.2.2.2 (gS qw_1568 qw_1569 qw_81 qw_1570) rfl rfl rfl (by decide +kernel) ⟨Nat.le_of_ble_eq_true rfl, Nat.le_of_ble_eq_true rfl⟩) (g_pre C hW_26 hS_27 [.int n, .int 1, .int 40]) rfl rfl hl.1 rfl (lv_room (Nat.le_of_ble_eq_true rfl)) dX8_taps_24 ⟨Nat.zero_le _, Nat.zero_le _⟩) hS_27 (fun r_32 Y_33 H_34 locs_35 hW_36 hS_37 h_31 => ?_)
      obtain ⟨h_31, hy_38⟩ := h_31
      replace hy_38 := hy_38.symm
      subst hy_38
      replace h_31 : r_32 = oM_isIn n 1 40 := h_31
      subst h_31
      refine lv_if_ne (tgt := 36) hx hb dX8_taps_27 (by decide) (fun b_39 => ?_) (fun b_39 => ?_)
      · obtain ⟨k0, hk01, hk02, hk03⟩ := isIn_nat (a := 1) (b := 40) (by decide) (by decide) b_39
        refine lv_aload_n hx hb dX8_taps_36 rfl (lv_at hl 0 rfl) ?_
        refine lv_iload_n hx hb dX8_taps_37 rfl (lv_at hl 1 rfl) ?_
        refine g_calli (va_runS (As := [.int (nI f_20)]) (rest := [.ref (ad G 723)]) C.1 (cX8_furnace_ok l G (setRow (setRow (setRow X 15 (X.1 15)) 16 (X.1 16)) 20 (X.1 20)) (nI f_20)) (va_cwS 1 C.1.2.2.2.2 (gS qw_1470 qw_1471 qw_81 qw_1472) rfl rfl rfl (by decide +kernel) ⟨Nat.le_of_ble_eq_true rfl, Nat.le_of_ble_eq_true rfl⟩) (g_pre C hW_36 hS_37 [.int (nI f_20)]) rfl rfl hl.1 rfl (lv_room (Nat.le_of_ble_eq_true rfl)) dX8_taps_38 ⟨Nat.zero_le _, Nat.zero_le _⟩) hS_37 (fun r_41 Y_42 H_43 locs_44 hW_45 hS_46 h_40 => ?_)
        obtain ⟨h_40, hy_47⟩ := h_40
        replace hy_47 := hy_47.symm
        subst hy_47
        replace h_40 : r_41 = oM_furnace (nI f_20) := h_40
        subst h_40
        refine g_top (y := nI (9 + 6 * f_20)) (at_furnace f_20) ?_
        refine g_calli (va_runV (As := [.int (nI (9 + 6 * f_20))]) (rest := []) C.1 (cX8_mass_ok l G (setRow (setRow (setRow X 15 (X.1 15)) 16 (X.1 16)) 20 (X.1 20)) (9 + 6 * f_20) (show 9 + 6 * f_20 + 4 ≤ 128 by omega)) (cwV 1 C.1.2.2.2.2 (gV qw_1575 qw_1577 qw_32 qw_81 qw_1578) rfl rfl rfl (by decide +kernel) ⟨Nat.le_of_ble_eq_true rfl, Nat.le_of_ble_eq_true rfl⟩) (g_rModel C hW_45 hS_46 [.int (nI (9 + 6 * f_20))]) rfl rfl hl.1 rfl (lv_room (Nat.le_of_ble_eq_true rfl)) dX8_taps_41 ⟨Nat.zero_le _, Nat.zero_le _⟩) hS_46 (fun r_49 Y_50 H_51 locs_52 hW_53 hS_54 h_48 => ?_)
        obtain ⟨h_48, hy_55⟩ := h_48
        replace hy_55 := hy_55.symm
        subst hy_55
        replace h_48 : r_49 = oM_mass (X.1 16) (9 + 6 * f_20) := h_48
        subst h_48
        refine lv_iload_n hx hb dX8_taps_44 rfl (lv_at hl 3 rfl) ?_
        refine lv_icmp_ge (tgt := 54) hx hb dX8_taps_45 (by decide) (fun b_56 => ?_) (fun b_56 => ?_)
        · refine lv_aload_n hx hb dX8_taps_54 rfl (lv_at hl 0 rfl) ?_
          refine lv_iload_n hx hb dX8_taps_55 rfl (lv_at hl 1 rfl) ?_
          refine g_calli (va_runS (As := [.int (nI f_20)]) (rest := [.ref (ad G 723)]) C.1 (cX8_furnace_ok l G (setRow (setRow (setRow X 15 (X.1 15)) 16 (X.1 16)) 20 (X.1 20)) (nI f_20)) (va_cwS 1 C.1.2.2.2.2 (gS qw_1470 qw_1471 qw_81 qw_1472) rfl rfl rfl (by decide +kernel) ⟨Nat.le_of_ble_eq_true rfl, Nat.le_of_ble_eq_true rfl⟩) (g_pre C hW_53 hS_54 [.int (nI f_20)]) rfl rfl hl.1 rfl (lv_room (Nat.le_of_ble_eq_true rfl)) dX8_taps_56 ⟨Nat.zero_le _, Nat.zero_le _⟩) hS_54 (fun r_58 Y_59 H_60 locs_61 hW_62 hS_63 h_57 => ?_)
          obtain ⟨h_57, hy_64⟩ := h_57
          replace hy_64 := hy_64.symm
          subst hy_64
          replace h_57 : r_58 = oM_furnace (nI f_20) := h_57
          subst h_57
          refine g_top (y := nI (9 + 6 * f_20)) (at_furnace f_20) ?_
          refine g_calli (va_runV (As := [.int (nI (9 + 6 * f_20))]) (rest := []) C.1 (cX8_isFluid_ok l G (setRow (setRow (setRow X 15 (X.1 15)) 16 (X.1 16)) 20 (X.1 20)) (9 + 6 * f_20) (show 9 + 6 * f_20 + 5 ≤ 128 by omega)) (cwV 1 C.1.2.2.2.2 (gV qw_1611 qw_1613 qw_39 qw_81 qw_1614) rfl rfl rfl (by decide +kernel) ⟨Nat.le_of_ble_eq_true rfl, Nat.le_of_ble_eq_true rfl⟩) (g_rModel C hW_62 hS_63 [.int (nI (9 + 6 * f_20))]) rfl rfl hl.1 rfl (lv_room (Nat.le_of_ble_eq_true rfl)) dX8_taps_59 ⟨Nat.zero_le _, Nat.zero_le _⟩) hS_63 (fun r_66 Y_67 H_68 locs_69 hW_70 hS_71 h_65 => ?_)
          obtain ⟨h_65, hy_72⟩ := h_65
          replace hy_72 := hy_72.symm
          subst hy_72
          replace h_65 : r_66 = oM_isFluid (X.1 16) (X.1 21) (9 + 6 * f_20) := h_65
          subst h_65
          refine lv_if_ne (tgt := 71) hx hb dX8_taps_62 (by decide) (fun b_73 => ?_) (fun b_73 => ?_)
          · refine lv_aload_n hx hb dX8_taps_71 rfl (lv_at hl 0 rfl) ?_
            refine lv_iload_n hx hb dX8_taps_72 rfl (lv_at hl 2 rfl) ?_
            refine g_calli (va_runS (As := [.int (nI f_30)]) (rest := [.ref (ad G 723)]) C.1 (cX8_ladle_ok l G (setRow (setRow (setRow X 15 (X.1 15)) 16 (X.1 16)) 20 (X.1 20)) (nI f_30)) (va_cwS 1 C.1.2.2.2.2 (gS qw_1473 qw_1474 qw_81 qw_1475) rfl rfl rfl (by decide +kernel) ⟨Nat.le_of_ble_eq_true rfl, Nat.le_of_ble_eq_true rfl⟩) (g_pre C hW_70 hS_71 [.int (nI f_30)]) rfl rfl hl.1 rfl (lv_room (Nat.le_of_ble_eq_true rfl)) dX8_taps_73 ⟨Nat.zero_le _, Nat.zero_le _⟩) hS_71 (fun r_75 Y_76 H_77 locs_78 hW_79 hS_80 h_74 => ?_)
            obtain ⟨h_74, hy_81⟩ := h_74
            replace hy_81 := hy_81.symm
            subst hy_81
            replace h_74 : r_75 = oM_ladle (nI f_30) := h_74
            subst h_74
            refine g_top (y := nI (27 + 5 * f_30)) (at_ladle f_30) ?_
            refine g_calli (va_runV (As := [.int (nI (27 + 5 * f_30))]) (rest := []) C.1 (cX8_mass_ok l G (setRow (setRow (setRow X 15 (X.1 15)) 16 (X.1 16)) 20 (X.1 20)) (27 + 5 * f_30) (show 27 + 5 * f_30 + 4 ≤ 128 by omega)) (cwV 1 C.1.2.2.2.2 (gV qw_1575 qw_1577 qw_32 qw_81 qw_1578) rfl rfl rfl (by decide +kernel) ⟨Nat.le_of_ble_eq_true rfl, Nat.le_of_ble_eq_true rfl⟩) (g_rModel C hW_79 hS_80 [.int (nI (27 + 5 * f_30))]) rfl rfl hl.1 rfl (lv_room (Nat.le_of_ble_eq_true rfl)) dX8_taps_76 ⟨Nat.zero_le _, Nat.zero_le _⟩) hS_80 (fun r_83 Y_84 H_85 locs_86 hW_87 hS_88 h_82 => ?_)
            obtain ⟨h_82, hy_89⟩ := h_82
            replace hy_89 := hy_89.symm
            subst hy_89
            replace h_82 : r_83 = oM_mass (X.1 16) (27 + 5 * f_30) := h_82
            subst h_82
            refine lv_iload_n hx hb dX8_taps_79 rfl (lv_at hl 3 rfl) ?_
            refine lv_iadd hx hb dX8_taps_80 ?_
            refine lv_bipush (v := 40) hx hb dX8_taps_81 (by decide) ?_
            refine lv_icmp_le (tgt := 92) hx hb dX8_taps_83 (by decide) (fun b_90 => ?_) (fun b_90 => ?_)
            · refine lv_aload_n hx hb dX8_taps_92 rfl (lv_at hl 0 rfl) ?_
              refine lv_iload_n hx hb dX8_taps_93 rfl (lv_at hl 1 rfl) ?_
              refine g_calli (va_runS (As := [.int (nI f_20)]) (rest := [.ref (ad G 723)]) C.1 (cX8_furnace_ok l G (setRow (setRow (setRow X 15 (X.1 15)) 16 (X.1 16)) 20 (X.1 20)) (nI f_20)) (va_cwS 1 C.1.2.2.2.2 (gS qw_1470 qw_1471 qw_81 qw_1472) rfl rfl rfl (by decide +kernel) ⟨Nat.le_of_ble_eq_true rfl, Nat.le_of_ble_eq_true rfl⟩) (g_pre C hW_87 hS_88 [.int (nI f_20)]) rfl rfl hl.1 rfl (lv_room (Nat.le_of_ble_eq_true rfl)) dX8_taps_94 ⟨Nat.zero_le _, Nat.zero_le _⟩) hS_88 (fun r_92 Y_93 H_94 locs_95 hW_96 hS_97 h_91 => ?_)
              obtain ⟨h_91, hy_98⟩ := h_91
              replace hy_98 := hy_98.symm
              subst hy_98
              replace h_91 : r_92 = oM_furnace (nI f_20) := h_91
              subst h_91
              refine g_top (y := nI (9 + 6 * f_20)) (at_furnace f_20) ?_
              refine lv_iload_n hx hb dX8_taps_97 rfl (lv_at hl 3 rfl) ?_
              refine g_callv (va_runV (As := [.int (nI (9 + 6 * f_20)), .int n]) (rest := []) C.1 (cX8_takes_ok l G (setRow (setRow (setRow X 15 (X.1 15)) 16 (X.1 16)) 20 (X.1 20)) (9 + 6 * f_20) n (show 9 + 6 * f_20 + 4 ≤ 128 by omega) (nz_take (N := 100) (hm.1 f_20 (by omega)) (by decide) hk03 hk01 (by omega) b_56)) (cwV 2 C.1.2.2.2.2 (gV qw_1627 qw_1629 qw_42 qw_81 qw_1630) rfl rfl rfl (by decide +kernel) ⟨Nat.le_of_ble_eq_true rfl, Nat.le_of_ble_eq_true rfl⟩) (g_rModel C hW_96 hS_97 [.int (nI (9 + 6 * f_20)), .int n]) rfl rfl hl.1 rfl (lv_room (Nat.le_of_ble_eq_true rfl)) dX8_taps_98 ⟨Nat.zero_le _, Nat.zero_le _⟩) hS_97 (fun Y_100 H_101 locs_102 hW_103 hS_104 h_99 => ?_)
              replace h_99 : Y_100 = setRow (setRow (setRow (setRow (setRow X 15 (X.1 15)) 16 (X.1 16)) 20 (X.1 20)) 16 ((oM_takes (X.1 16) (X.1 20) (9 + 6 * f_20) n).1)) 20 ((oM_takes (X.1 16) (X.1 20) (9 + 6 * f_20) n).2) := h_99
              obtain ⟨w_105, ew_105⟩ : ∃ Z9, Z9 = (oM_takes (X.1 16) (X.1 20) (9 + 6 * f_20) n).1 := ⟨_, rfl⟩
              obtain ⟨w_106, ew_106⟩ : ∃ Z9, Z9 = (oM_takes (X.1 16) (X.1 20) (9 + 6 * f_20) n).2 := ⟨_, rfl⟩
              have qqw_105 : Y_100 = setRow (setRow (setRow (setRow (setRow X 15 (X.1 15)) 16 (X.1 16)) 20 (X.1 20)) 16 w_105) 20 w_106 := by rw [h_99, ew_105, ew_106]
              have hW_107 : Wd G (setRow (setRow (setRow X 15 (X.1 15)) 16 w_105) 20 w_106) H_101 := Wd.cast (((qqw_105).trans (congrArg (fun Z9 => setRow (Z9) 20 w_106) (sr_in (by decide) sr_out))).trans (congrArg (fun Z9 => Z9) sr_out)) hW_103
              refine lv_aload_n hx hb dX8_taps_101 rfl (lv_at hl 0 rfl) ?_
              refine lv_iload_n hx hb dX8_taps_102 rfl (lv_at hl 2 rfl) ?_
              refine lv_aload_n hx hb dX8_taps_103 rfl (lv_at hl 0 rfl) ?_
              refine gM_v C hW_107 (hwc hwX8) (mc qw_1481) dX8_taps_104 ?_
              refine lv_iload_n hx hb dX8_taps_107 rfl (lv_at hl 1 rfl) ?_
              refine g_calli (va_runS (As := [.int (nI f_20)]) (rest := [.ref (ad G 724), .int (nI f_30), .ref (ad G 723)]) C.1 (cX8_furnace_ok l G (setRow (setRow (setRow X 15 (X.1 15)) 16 w_105) 20 w_106) (nI f_20)) (va_cwS 1 C.1.2.2.2.2 (gS qw_1470 qw_1471 qw_81 qw_1472) rfl rfl rfl (by decide +kernel) ⟨Nat.le_of_ble_eq_true rfl, Nat.le_of_ble_eq_true rfl⟩) (g_pre C hW_107 hS_104 [.int (nI f_20)]) rfl rfl hl.1 rfl (lv_room (Nat.le_of_ble_eq_true rfl)) dX8_taps_108 ⟨Nat.zero_le _, Nat.zero_le _⟩) hS_104 (fun r_109 Y_110 H_111 locs_112 hW_113 hS_114 h_108 => ?_)
              obtain ⟨h_108, hy_115⟩ := h_108
              replace hy_115 := hy_115.symm
              subst hy_115
              replace h_108 : r_109 = oM_furnace (nI f_20) := h_108
              subst h_108
              refine g_top (y := nI (9 + 6 * f_20)) (at_furnace f_20) ?_
              refine lv_iconst (v := 4) hx hb dX8_taps_111 (by decide) ?_
              refine lv_iadd hx hb dX8_taps_112 ?_
              refine g_top (y := nI ((9 + 6 * f_20) + 4)) (nI_add (9 + 6 * f_20) 4) ?_
              refine gm_vld C hW_113 ((9 + 6 * f_20) + 4) (nI_clamp (by omega)) (vp_in_nI (show (9 + 6 * f_20) + 4 < 128 by omega) (by decide)) dX8_taps_113 ?_
              refine g_top (y := w_105 ((9 + 6 * f_20) + 4)) (congrFun (rd_in (by decide) rd_out) _) ?_
              refine g_calli (va_runV (As := [.int (nI f_30), .int (w_105 ((9 + 6 * f_20) + 4))]) (rest := []) C.1 (cX8_fills_ok l G (setRow (setRow (setRow X 15 (X.1 15)) 16 w_105) 20 w_106) f_30 (w_105 ((9 + 6 * f_20) + 4)) (show f_30 < 3 by omega) (by subst ew_106; subst ew_105; exact nz_fill (N := 100) (M := 40) (hm.1 f_20 (by omega)) (hm.2.1 f_30 (by omega)) (by decide) (by decide) hk03 hk01 (by omega) b_56 (by omega))) (cwV 2 C.1.2.2.2.2 (gV qw_1631 qw_1633 qw_43 qw_81 qw_1634) rfl rfl rfl (by decide +kernel) ⟨Nat.le_of_ble_eq_true rfl, Nat.le_of_ble_eq_true rfl⟩) (g_rModel C hW_113 hS_114 [.int (nI f_30), .int (w_105 ((9 + 6 * f_20) + 4))]) rfl rfl hl.1 rfl (lv_room (Nat.le_of_ble_eq_true rfl)) dX8_taps_114 ⟨Nat.zero_le _, Nat.zero_le _⟩) hS_114 (fun r_117 Y_118 H_119 locs_120 hW_121 hS_122 h_116 => ?_)
              obtain ⟨h_123, h_116⟩ := h_116
              replace h_123 : r_117 = (oM_fills w_105 w_106 f_30 (w_105 ((9 + 6 * f_20) + 4))).1 := h_123
              subst h_123
              replace h_116 : Y_118 = setRow (setRow (setRow (setRow X 15 (X.1 15)) 16 w_105) 20 w_106) 16 ((oM_fills w_105 w_106 f_30 (w_105 ((9 + 6 * f_20) + 4))).2) := h_116
              obtain ⟨w_124, ew_124⟩ : ∃ Z9, Z9 = (oM_fills w_105 w_106 f_30 (w_105 ((9 + 6 * f_20) + 4))).2 := ⟨_, rfl⟩
              have qqw_124 : Y_118 = setRow (setRow (setRow (setRow X 15 (X.1 15)) 16 w_105) 20 w_106) 16 w_124 := by rw [h_116, ew_124]
              have hW_125 : Wd G (setRow (setRow (setRow X 15 (X.1 15)) 16 w_124) 20 w_106) H_119 := Wd.cast ((qqw_124).trans (congrArg (fun Z9 => Z9) (sr_in (by decide) sr_out))) hW_121
              exact g_iret C hr hlk hW_125 hS_122 dX8_taps_117 (by subst ew_124; subst ew_106; subst ew_105; exact ⟨(by first | rfl | (simp only [oM_taps, clf (show f_20 < 2 ^ 31 by omega), clf (show f_30 < 2 ^ 31 by omega), b_9, b_29, b_39, b_56, b_73, b_90, if_true, if_false]; first | done | rfl)), (by first | rfl | (simp only [oM_taps, clf (show f_20 < 2 ^ 31 by omega), clf (show f_30 < 2 ^ 31 by omega), b_9, b_29, b_39, b_56, b_73, b_90, if_true, if_false]; first | done | rfl))⟩)
            · refine lv_aload_n hx hb dX8_taps_86 rfl (lv_at hl 0 rfl) ?_
              refine lv_iconst (v := 5) hx hb dX8_taps_87 (by decide) ?_
              refine g_calli (va_runV (As := [.int 5]) (rest := []) C.1 (cX8_fail_ok l G (setRow (setRow (setRow X 15 (X.1 15)) 16 (X.1 16)) 20 (X.1 20)) 5) (cwV 1 C.1.2.2.2.2 (gV qw_1571 qw_1573 qw_31 qw_81 qw_1574) rfl rfl rfl (by decide +kernel) ⟨Nat.le_of_ble_eq_true rfl, Nat.le_of_ble_eq_true rfl⟩) (g_rModel C hW_87 hS_88 [.int 5]) rfl rfl hl.1 rfl (lv_room (Nat.le_of_ble_eq_true rfl)) dX8_taps_88 ⟨Nat.zero_le _, Nat.zero_le _⟩) hS_88 (fun r_127 Y_128 H_129 locs_130 hW_131 hS_132 h_126 => ?_)
              obtain ⟨h_133, h_126⟩ := h_126
              replace h_133 : r_127 = (oM_fail (X.1 15) 5).1 := h_133
              subst h_133
              replace h_126 : Y_128 = setRow (setRow (setRow (setRow X 15 (X.1 15)) 16 (X.1 16)) 20 (X.1 20)) 15 ((oM_fail (X.1 15) 5).2) := h_126
              obtain ⟨w_134, ew_134⟩ : ∃ Z9, Z9 = (oM_fail (X.1 15) 5).2 := ⟨_, rfl⟩
              have qqw_134 : Y_128 = setRow (setRow (setRow (setRow X 15 (X.1 15)) 16 (X.1 16)) 20 (X.1 20)) 15 w_134 := by rw [h_126, ew_134]
              have hW_135 : Wd G (setRow (setRow (setRow X 15 w_134) 16 (X.1 16)) 20 (X.1 20)) H_129 := Wd.cast ((qqw_134).trans (congrArg (fun Z9 => Z9) (sr_in (by decide) (sr_in (by decide) sr_out)))) hW_131
              exact g_iret C hr hlk hW_135 hS_132 dX8_taps_91 (by subst ew_134; exact ⟨(by first | rfl | (simp only [oM_taps, clf (show f_20 < 2 ^ 31 by omega), clf (show f_30 < 2 ^ 31 by omega), b_9, b_29, b_39, b_56, b_73, b_90, if_true, if_false]; first | done | rfl)), (by first | rfl | (simp only [oM_taps, clf (show f_20 < 2 ^ 31 by omega), clf (show f_30 < 2 ^ 31 by omega), b_9, b_29, b_39, b_56, b_73, b_90, if_true, if_false]; first | done | rfl))⟩)
          · refine lv_aload_n hx hb dX8_taps_65 rfl (lv_at hl 0 rfl) ?_
            refine lv_iconst (v := 4) hx hb dX8_taps_66 (by decide) ?_
            refine g_calli (va_runV (As := [.int 4]) (rest := []) C.1 (cX8_fail_ok l G (setRow (setRow (setRow X 15 (X.1 15)) 16 (X.1 16)) 20 (X.1 20)) 4) (cwV 1 C.1.2.2.2.2 (gV qw_1571 qw_1573 qw_31 qw_81 qw_1574) rfl rfl rfl (by decide +kernel) ⟨Nat.le_of_ble_eq_true rfl, Nat.le_of_ble_eq_true rfl⟩) (g_rModel C hW_70 hS_71 [.int 4]) rfl rfl hl.1 rfl (lv_room (Nat.le_of_ble_eq_true rfl)) dX8_taps_67 ⟨Nat.zero_le _, Nat.zero_le _⟩) hS_71 (fun r_137 Y_138 H_139 locs_140 hW_141 hS_142 h_136 => ?_)
            obtain ⟨h_143, h_136⟩ := h_136
            replace h_143 : r_137 = (oM_fail (X.1 15) 4).1 := h_143
            subst h_143
            replace h_136 : Y_138 = setRow (setRow (setRow (setRow X 15 (X.1 15)) 16 (X.1 16)) 20 (X.1 20)) 15 ((oM_fail (X.1 15) 4).2) := h_136
            obtain ⟨w_144, ew_144⟩ : ∃ Z9, Z9 = (oM_fail (X.1 15) 4).2 := ⟨_, rfl⟩
            have qqw_144 : Y_138 = setRow (setRow (setRow (setRow X 15 (X.1 15)) 16 (X.1 16)) 20 (X.1 20)) 15 w_144 := by rw [h_136, ew_144]
            have hW_145 : Wd G (setRow (setRow (setRow X 15 w_144) 16 (X.1 16)) 20 (X.1 20)) H_139 := Wd.cast ((qqw_144).trans (congrArg (fun Z9 => Z9) (sr_in (by decide) (sr_in (by decide) sr_out)))) hW_141
            exact g_iret C hr hlk hW_145 hS_142 dX8_taps_70 (by subst ew_144; exact ⟨(by first | rfl | (simp only [oM_taps, clf (show f_20 < 2 ^ 31 by omega), clf (show f_30 < 2 ^ 31 by omega), b_9, b_29, b_39, b_56, eq_true b_73, if_true, if_false]; first | done | rfl)), (by first | rfl | (simp only [oM_taps, clf (show f_20 < 2 ^ 31 by omega), clf (show f_30 < 2 ^ 31 by omega), b_9, b_29, b_39, b_56, eq_true b_73, if_true, if_false]; first | done | rfl))⟩)
        · refine lv_aload_n hx hb dX8_taps_48 rfl (lv_at hl 0 rfl) ?_
          refine lv_iconst (v := 3) hx hb dX8_taps_49 (by decide) ?_
          refine g_calli (va_runV (As := [.int 3]) (rest := []) C.1 (cX8_fail_ok l G (setRow (setRow (setRow X 15 (X.1 15)) 16 (X.1 16)) 20 (X.1 20)) 3) (cwV 1 C.1.2.2.2.2 (gV qw_1571 qw_1573 qw_31 qw_81 qw_1574) rfl rfl rfl (by decide +kernel) ⟨Nat.le_of_ble_eq_true rfl, Nat.le_of_ble_eq_true rfl⟩) (g_rModel C hW_53 hS_54 [.int 3]) rfl rfl hl.1 rfl (lv_room (Nat.le_of_ble_eq_true rfl)) dX8_taps_50 ⟨Nat.zero_le _, Nat.zero_le _⟩) hS_54 (fun r_147 Y_148 H_149 locs_150 hW_151 hS_152 h_146 => ?_)
          obtain ⟨h_153, h_146⟩ := h_146
          replace h_153 : r_147 = (oM_fail (X.1 15) 3).1 := h_153
          subst h_153
          replace h_146 : Y_148 = setRow (setRow (setRow (setRow X 15 (X.1 15)) 16 (X.1 16)) 20 (X.1 20)) 15 ((oM_fail (X.1 15) 3).2) := h_146
          obtain ⟨w_154, ew_154⟩ : ∃ Z9, Z9 = (oM_fail (X.1 15) 3).2 := ⟨_, rfl⟩
          have qqw_154 : Y_148 = setRow (setRow (setRow (setRow X 15 (X.1 15)) 16 (X.1 16)) 20 (X.1 20)) 15 w_154 := by rw [h_146, ew_154]
          have hW_155 : Wd G (setRow (setRow (setRow X 15 w_154) 16 (X.1 16)) 20 (X.1 20)) H_149 := Wd.cast ((qqw_154).trans (congrArg (fun Z9 => Z9) (sr_in (by decide) (sr_in (by decide) sr_out)))) hW_151
          exact g_iret C hr hlk hW_155 hS_152 dX8_taps_53 (by subst ew_154; exact ⟨(by first | rfl | (simp only [oM_taps, clf (show f_20 < 2 ^ 31 by omega), clf (show f_30 < 2 ^ 31 by omega), b_9, b_29, b_39, b_56, if_true, if_false]; first | done | rfl)), (by first | rfl | (simp only [oM_taps, clf (show f_20 < 2 ^ 31 by omega), clf (show f_30 < 2 ^ 31 by omega), b_9, b_29, b_39, b_56, if_true, if_false]; first | done | rfl))⟩)
      · refine lv_aload_n hx hb dX8_taps_30 rfl (lv_at hl 0 rfl) ?_
        refine lv_iconst (v := 2) hx hb dX8_taps_31 (by decide) ?_
        refine g_calli (va_runV (As := [.int 2]) (rest := []) C.1 (cX8_fail_ok l G (setRow (setRow (setRow X 15 (X.1 15)) 16 (X.1 16)) 20 (X.1 20)) 2) (cwV 1 C.1.2.2.2.2 (gV qw_1571 qw_1573 qw_31 qw_81 qw_1574) rfl rfl rfl (by decide +kernel) ⟨Nat.le_of_ble_eq_true rfl, Nat.le_of_ble_eq_true rfl⟩) (g_rModel C hW_36 hS_37 [.int 2]) rfl rfl hl.1 rfl (lv_room (Nat.le_of_ble_eq_true rfl)) dX8_taps_32 ⟨Nat.zero_le _, Nat.zero_le _⟩) hS_37 (fun r_157 Y_158 H_159 locs_160 hW_161 hS_162 h_156 => ?_)
        obtain ⟨h_163, h_156⟩ := h_156
        replace h_163 : r_157 = (oM_fail (X.1 15) 2).1 := h_163
        subst h_163
        replace h_156 : Y_158 = setRow (setRow (setRow (setRow X 15 (X.1 15)) 16 (X.1 16)) 20 (X.1 20)) 15 ((oM_fail (X.1 15) 2).2) := h_156
        obtain ⟨w_164, ew_164⟩ : ∃ Z9, Z9 = (oM_fail (X.1 15) 2).2 := ⟨_, rfl⟩
        have qqw_164 : Y_158 = setRow (setRow (setRow (setRow X 15 (X.1 15)) 16 (X.1 16)) 20 (X.1 20)) 15 w_164 := by rw [h_156, ew_164]
        have hW_165 : Wd G (setRow (setRow (setRow X 15 w_164) 16 (X.1 16)) 20 (X.1 20)) H_159 := Wd.cast ((qqw_164).trans (congrArg (fun Z9 => Z9) (sr_in (by decide) (sr_in (by decide) sr_out)))) hW_161
        exact g_iret C hr hlk hW_165 hS_162 dX8_taps_35 (by subst ew_164; exact ⟨(by first | rfl | (simp only [oM_taps, clf (show f_20 < 2 ^ 31 by omega), clf (show f_30 < 2 ^ 31 by omega), b_9, b_29, eq_true b_39, if_true, if_false]; first | done | rfl)), (by first | rfl | (simp only [oM_taps, clf (show f_20 < 2 ^ 31 by omega), clf (show f_30 < 2 ^ 31 by omega), b_9, b_29, eq_true b_39, if_true, if_false]; first | done | rfl))⟩)
    · refine lv_aload_n hx hb dX8_taps_14 rfl (lv_at hl 0 rfl) ?_
      refine lv_iconst (v := 1) hx hb dX8_taps_15 (by decide) ?_
      refine g_calli (va_runV (As := [.int 1]) (rest := []) C.1 (cX8_fail_ok l G (setRow (setRow (setRow X 15 (X.1 15)) 16 (X.1 16)) 20 (X.1 20)) 1) (cwV 1 C.1.2.2.2.2 (gV qw_1571 qw_1573 qw_31 qw_81 qw_1574) rfl rfl rfl (by decide +kernel) ⟨Nat.le_of_ble_eq_true rfl, Nat.le_of_ble_eq_true rfl⟩) (g_rModel C hW_26 hS_27 [.int 1]) rfl rfl hl.1 rfl (lv_room (Nat.le_of_ble_eq_true rfl)) dX8_taps_16 ⟨Nat.zero_le _, Nat.zero_le _⟩) hS_27 (fun r_167 Y_168 H_169 locs_170 hW_171 hS_172 h_166 => ?_)
      obtain ⟨h_173, h_166⟩ := h_166
      replace h_173 : r_167 = (oM_fail (X.1 15) 1).1 := h_173
      subst h_173
      replace h_166 : Y_168 = setRow (setRow (setRow (setRow X 15 (X.1 15)) 16 (X.1 16)) 20 (X.1 20)) 15 ((oM_fail (X.1 15) 1).2) := h_166
      obtain ⟨w_174, ew_174⟩ : ∃ Z9, Z9 = (oM_fail (X.1 15) 1).2 := ⟨_, rfl⟩
      have qqw_174 : Y_168 = setRow (setRow (setRow (setRow X 15 (X.1 15)) 16 (X.1 16)) 20 (X.1 20)) 15 w_174 := by rw [h_166, ew_174]
      have hW_175 : Wd G (setRow (setRow (setRow X 15 w_174) 16 (X.1 16)) 20 (X.1 20)) H_169 := Wd.cast ((qqw_174).trans (congrArg (fun Z9 => Z9) (sr_in (by decide) (sr_in (by decide) sr_out)))) hW_171
      exact g_iret C hr hlk hW_175 hS_172 dX8_taps_19 (by subst ew_174; exact ⟨(by first | rfl | (simp only [oM_taps, clf (show f_20 < 2 ^ 31 by omega), b_9, eq_true b_29, if_true, if_false]; first | done | rfl)), (by first | rfl | (simp only [oM_taps, clf (show f_20 < 2 ^ 31 by omega), b_9, eq_true b_29, if_true, if_false]; first | done | rfl))⟩)

def oM_backs (w15 : Nat → Int32) (w16 : Nat → Int32) (w20 : Nat → Int32) (la : Int32) (f : Int32) : Int32 × ((Nat → Int32) × ((Nat → Int32) × (Nat → Int32))) := if oM_isThree la = 0 then ((oM_fail (w15) 1).1, ((oM_fail (w15) 1).2), w16, w20) else (if oM_isThree f = 0 then ((oM_fail (w15) 1).1, ((oM_fail (w15) 1).2), w16, w20) else (if (oM_mass (w16) (27 + 5 * la.toNatClampNeg)) = 0 then ((oM_fail (w15) 2).1, ((oM_fail (w15) 2).2), w16, w20) else (if (oM_mass (w16) (9 + 6 * f.toNatClampNeg)) + (oM_mass (w16) (27 + 5 * la.toNatClampNeg)) ≤ 100 then ((oM_feeds (oM_cools ((oM_takes (w16) (w20) (27 + 5 * la.toNatClampNeg) (oM_mass (w16) (27 + 5 * la.toNatClampNeg))).1) la.toNatClampNeg) ((oM_takes (w16) (w20) (27 + 5 * la.toNatClampNeg) (oM_mass (w16) (27 + 5 * la.toNatClampNeg))).2) f.toNatClampNeg (w16 ((27 + 5 * la.toNatClampNeg) + 4))).1, w15, ((oM_feeds (oM_cools ((oM_takes (w16) (w20) (27 + 5 * la.toNatClampNeg) (oM_mass (w16) (27 + 5 * la.toNatClampNeg))).1) la.toNatClampNeg) ((oM_takes (w16) (w20) (27 + 5 * la.toNatClampNeg) (oM_mass (w16) (27 + 5 * la.toNatClampNeg))).2) f.toNatClampNeg (w16 ((27 + 5 * la.toNatClampNeg) + 4))).2), ((oM_takes (w16) (w20) (27 + 5 * la.toNatClampNeg) (oM_mass (w16) (27 + 5 * la.toNatClampNeg))).2)) else ((oM_fail (w15) 3).1, ((oM_fail (w15) 3).2), w16, w20))))
set_option maxHeartbeats 4000000 in
set_option maxRecDepth 100000 in
theorem cX8_backs_ok (l : Launch) (G : GT) (X : St) (la : Int32) (f : Int32) (hm : MInv (X.1 16)) : MetI l G yX8_backs (wsG yX8_backs cX8_backs 5 (some .int)) (rmz 2 47) [.ref (ad G 723), .int la, .int f] X (fun res Y => res = (oM_backs (X.1 15) (X.1 16) (X.1 20) la f).1 ∧ Y = setRow (setRow (setRow (X) 15 ((oM_backs (X.1 15) (X.1 16) (X.1 20) la f).2.1)) 16 ((oM_backs (X.1 15) (X.1 16) (X.1 20) la f).2.2.1)) 20 ((oM_backs (X.1 15) (X.1 16) (X.1 20) la f).2.2.2)) := by
  refine g_met (cc := cX8_backs) (maxL := 5) (ret := (some .int)) (by decide) rfl (Nat.le_of_ble_eq_true rfl) ?_
  intro p e s m below meth c ls C hr hlk hnm hW hl
  have hx := C.1.1
  have hb := C.1.2.1
  have hS : va_S (Ab G) s.heap s.heap [] := va_S.rf
  have hl : lv_has ls 5 [(0, .ref (ad G 723)), (1, .int la), (2, .int f)] := hl
  have hW : Wd G (setRow (setRow (setRow (X) 15 (X.1 15)) 16 (X.1 16)) 20 (X.1 20)) s.heap := Wd.cast ((((sr_same (X := setRow (setRow (X) 15 (X.1 15)) 16 (X.1 16)) (r := 20) rfl).trans (sr_same (X := setRow (X) 15 (X.1 15)) (r := 16) rfl)).trans (sr_same (X := X) (r := 15) rfl))).symm hW
  refine lv_iload_n hx hb dX8_backs_0 rfl (lv_at hl 1 rfl) ?_
  refine g_calli (va_runS (As := [.int la]) (rest := []) C.1 (cX8_isThree_ok l G (setRow (setRow (setRow X 15 (X.1 15)) 16 (X.1 16)) 20 (X.1 20)) la) (va_cwS 1 C.1.2.2.2.2 (gS qw_1565 qw_1566 qw_81 qw_1567) rfl rfl rfl (by decide +kernel) ⟨Nat.le_of_ble_eq_true rfl, Nat.le_of_ble_eq_true rfl⟩) (g_pre C hW hS [.int la]) rfl rfl hl.1 rfl (lv_room (Nat.le_of_ble_eq_true rfl)) dX8_backs_1 ⟨Nat.zero_le _, Nat.zero_le _⟩) hS (fun r_2 Y_3 H_4 locs_5 hW_6 hS_7 h_1 => ?_)
  obtain ⟨h_1, hy_8⟩ := h_1
  replace hy_8 := hy_8.symm
  subst hy_8
  replace h_1 : r_2 = oM_isThree la := h_1
  subst h_1
  refine lv_if_eq (tgt := 14) hx hb dX8_backs_4 (by decide) (fun b_9 => ?_) (fun b_9 => ?_)
  · refine lv_aload_n hx hb dX8_backs_14 rfl (lv_at hl 0 rfl) ?_
    refine lv_iconst (v := 1) hx hb dX8_backs_15 (by decide) ?_
    refine g_calli (va_runV (As := [.int 1]) (rest := []) C.1 (cX8_fail_ok l G (setRow (setRow (setRow X 15 (X.1 15)) 16 (X.1 16)) 20 (X.1 20)) 1) (cwV 1 C.1.2.2.2.2 (gV qw_1571 qw_1573 qw_31 qw_81 qw_1574) rfl rfl rfl (by decide +kernel) ⟨Nat.le_of_ble_eq_true rfl, Nat.le_of_ble_eq_true rfl⟩) (g_rModel C hW_6 hS_7 [.int 1]) rfl rfl hl.1 rfl (lv_room (Nat.le_of_ble_eq_true rfl)) dX8_backs_16 ⟨Nat.zero_le _, Nat.zero_le _⟩) hS_7 (fun r_11 Y_12 H_13 locs_14 hW_15 hS_16 h_10 => ?_)
    obtain ⟨h_17, h_10⟩ := h_10
    replace h_17 : r_11 = (oM_fail (X.1 15) 1).1 := h_17
    subst h_17
    replace h_10 : Y_12 = setRow (setRow (setRow (setRow X 15 (X.1 15)) 16 (X.1 16)) 20 (X.1 20)) 15 ((oM_fail (X.1 15) 1).2) := h_10
    obtain ⟨w_18, ew_18⟩ : ∃ Z9, Z9 = (oM_fail (X.1 15) 1).2 := ⟨_, rfl⟩
    have qqw_18 : Y_12 = setRow (setRow (setRow (setRow X 15 (X.1 15)) 16 (X.1 16)) 20 (X.1 20)) 15 w_18 := by rw [h_10, ew_18]
    have hW_19 : Wd G (setRow (setRow (setRow X 15 w_18) 16 (X.1 16)) 20 (X.1 20)) H_13 := Wd.cast ((qqw_18).trans (congrArg (fun Z9 => Z9) (sr_in (by decide) (sr_in (by decide) sr_out)))) hW_15
    exact g_iret C hr hlk hW_19 hS_16 dX8_backs_19 (by subst ew_18; exact ⟨(by first | rfl | (simp only [oM_backs, eq_true b_9, if_true, if_false]; first | done | rfl)), (by first | rfl | (simp only [oM_backs, eq_true b_9, if_true, if_false]; first | done | rfl))⟩)
  · obtain ⟨f_20, hf_20, rfl⟩ := three_in b_9
    refine lv_iload_n hx hb dX8_backs_7 rfl (lv_at hl 2 rfl) ?_
    refine g_calli (va_runS (As := [.int f]) (rest := []) C.1 (cX8_isThree_ok l G (setRow (setRow (setRow X 15 (X.1 15)) 16 (X.1 16)) 20 (X.1 20)) f) (va_cwS 1 C.1.2.2.2.2 (gS qw_1565 qw_1566 qw_81 qw_1567) rfl rfl rfl (by decide +kernel) ⟨Nat.le_of_ble_eq_true rfl, Nat.le_of_ble_eq_true rfl⟩) (g_pre C hW_6 hS_7 [.int f]) rfl rfl hl.1 rfl (lv_room (Nat.le_of_ble_eq_true rfl)) dX8_backs_8 ⟨Nat.zero_le _, Nat.zero_le _⟩) hS_7 (fun r_22 Y_23 H_24 locs_25 hW_26 hS_27 h_21 => ?_)
    obtain ⟨h_21, hy_28⟩ := h_21
    replace hy_28 := hy_28.symm
    subst hy_28
    replace h_21 : r_22 = oM_isThree f := h_21
    subst h_21
    refine lv_if_ne (tgt := 20) hx hb dX8_backs_11 (by decide) (fun b_29 => ?_) (fun b_29 => ?_)
    · obtain ⟨f_30, hf_30, rfl⟩ := three_in b_29
      refine lv_aload_n hx hb dX8_backs_20 rfl (lv_at hl 0 rfl) ?_
      refine lv_iload_n hx hb dX8_backs_21 rfl (lv_at hl 1 rfl) ?_
      refine g_calli (va_runS (As := [.int (nI f_20)]) (rest := [.ref (ad G 723)]) C.1 (cX8_ladle_ok l G (setRow (setRow (setRow X 15 (X.1 15)) 16 (X.1 16)) 20 (X.1 20)) (nI f_20)) (va_cwS 1 C.1.2.2.2.2 (gS qw_1473 qw_1474 qw_81 qw_1475) rfl rfl rfl (by decide +kernel) ⟨Nat.le_of_ble_eq_true rfl, Nat.le_of_ble_eq_true rfl⟩) (g_pre C hW_26 hS_27 [.int (nI f_20)]) rfl rfl hl.1 rfl (lv_room (Nat.le_of_ble_eq_true rfl)) dX8_backs_22 ⟨Nat.zero_le _, Nat.zero_le _⟩) hS_27 (fun r_32 Y_33 H_34 locs_35 hW_36 hS_37 h_31 => ?_)
      obtain ⟨h_31, hy_38⟩ := h_31
      replace hy_38 := hy_38.symm
      subst hy_38
      replace h_31 : r_32 = oM_ladle (nI f_20) := h_31
      subst h_31
      refine g_top (y := nI (27 + 5 * f_20)) (at_ladle f_20) ?_
      refine g_calli (va_runV (As := [.int (nI (27 + 5 * f_20))]) (rest := []) C.1 (cX8_mass_ok l G (setRow (setRow (setRow X 15 (X.1 15)) 16 (X.1 16)) 20 (X.1 20)) (27 + 5 * f_20) (show 27 + 5 * f_20 + 4 ≤ 128 by omega)) (cwV 1 C.1.2.2.2.2 (gV qw_1575 qw_1577 qw_32 qw_81 qw_1578) rfl rfl rfl (by decide +kernel) ⟨Nat.le_of_ble_eq_true rfl, Nat.le_of_ble_eq_true rfl⟩) (g_rModel C hW_36 hS_37 [.int (nI (27 + 5 * f_20))]) rfl rfl hl.1 rfl (lv_room (Nat.le_of_ble_eq_true rfl)) dX8_backs_25 ⟨Nat.zero_le _, Nat.zero_le _⟩) hS_37 (fun r_40 Y_41 H_42 locs_43 hW_44 hS_45 h_39 => ?_)
      obtain ⟨h_39, hy_46⟩ := h_39
      replace hy_46 := hy_46.symm
      subst hy_46
      replace h_39 : r_40 = oM_mass (X.1 16) (27 + 5 * f_20) := h_39
      subst h_39
      refine lv_topi (fun v_47 ev_47 => ?_)
      refine lv_istore_n (lv' := [(3, .int v_47), (0, .ref (ad G 723)), (1, .int (nI f_20)), (2, .int (nI f_30))]) hx hb dX8_backs_28 rfl hl (by decide) rfl (fun ls_48 hl_49 => ?_)
      refine lv_aload_n hx hb dX8_backs_29 rfl (lv_at hl_49 1 rfl) ?_
      refine gM_v C hW_44 (hwc hwX8) (mc qw_1481) dX8_backs_30 ?_
      refine lv_iload_n hx hb dX8_backs_33 rfl (lv_at hl_49 2 rfl) ?_
      refine g_calli (va_runS (As := [.int (nI f_20)]) (rest := [.ref (ad G 724)]) C.1 (cX8_ladle_ok l G (setRow (setRow (setRow X 15 (X.1 15)) 16 (X.1 16)) 20 (X.1 20)) (nI f_20)) (va_cwS 1 C.1.2.2.2.2 (gS qw_1473 qw_1474 qw_81 qw_1475) rfl rfl rfl (by decide +kernel) ⟨Nat.le_of_ble_eq_true rfl, Nat.le_of_ble_eq_true rfl⟩) (g_pre C hW_44 hS_45 [.int (nI f_20)]) rfl rfl hl_49.1 rfl (lv_room (Nat.le_of_ble_eq_true rfl)) dX8_backs_34 ⟨Nat.zero_le _, Nat.zero_le _⟩) hS_45 (fun r_51 Y_52 H_53 locs_54 hW_55 hS_56 h_50 => ?_)
      obtain ⟨h_50, hy_57⟩ := h_50
      replace hy_57 := hy_57.symm
      subst hy_57
      replace h_50 : r_51 = oM_ladle (nI f_20) := h_50
      subst h_50
      refine g_top (y := nI (27 + 5 * f_20)) (at_ladle f_20) ?_
      refine lv_iconst (v := 4) hx hb dX8_backs_37 (by decide) ?_
      refine lv_iadd hx hb dX8_backs_38 ?_
      refine g_top (y := nI ((27 + 5 * f_20) + 4)) (nI_add (27 + 5 * f_20) 4) ?_
      refine gm_vld C hW_55 ((27 + 5 * f_20) + 4) (nI_clamp (by omega)) (vp_in_nI (show (27 + 5 * f_20) + 4 < 128 by omega) (by decide)) dX8_backs_39 ?_
      refine g_top (y := X.1 16 ((27 + 5 * f_20) + 4)) (congrFun (rd_in (by decide) rd_out) _) ?_
      refine lv_topi (fun v_58 ev_58 => ?_)
      refine lv_istore (lv' := [(4, .int v_58), (3, .int v_47), (0, .ref (ad G 723)), (1, .int (nI f_20)), (2, .int (nI f_30))]) hx hb dX8_backs_40 hl_49 (by decide) rfl (fun ls_59 hl_60 => ?_)
      refine lv_iload_n hx hb dX8_backs_42 rfl (lv_at hl_60 1 rfl) ?_
      refine lv_if_ne (tgt := 52) hx hb dX8_backs_43 (by decide) (fun b_61 => ?_) (fun b_61 => ?_)
      · refine lv_aload_n hx hb dX8_backs_52 rfl (lv_at hl_60 2 rfl) ?_
        refine lv_iload_n hx hb dX8_backs_53 rfl (lv_at hl_60 4 rfl) ?_
        refine g_calli (va_runS (As := [.int (nI f_30)]) (rest := [.ref (ad G 723)]) C.1 (cX8_furnace_ok l G (setRow (setRow (setRow X 15 (X.1 15)) 16 (X.1 16)) 20 (X.1 20)) (nI f_30)) (va_cwS 1 C.1.2.2.2.2 (gS qw_1470 qw_1471 qw_81 qw_1472) rfl rfl rfl (by decide +kernel) ⟨Nat.le_of_ble_eq_true rfl, Nat.le_of_ble_eq_true rfl⟩) (g_pre C hW_55 hS_56 [.int (nI f_30)]) rfl rfl hl_60.1 rfl (lv_room (Nat.le_of_ble_eq_true rfl)) dX8_backs_54 ⟨Nat.zero_le _, Nat.zero_le _⟩) hS_56 (fun r_63 Y_64 H_65 locs_66 hW_67 hS_68 h_62 => ?_)
        obtain ⟨h_62, hy_69⟩ := h_62
        replace hy_69 := hy_69.symm
        subst hy_69
        replace h_62 : r_63 = oM_furnace (nI f_30) := h_62
        subst h_62
        refine g_top (y := nI (9 + 6 * f_30)) (at_furnace f_30) ?_
        refine g_calli (va_runV (As := [.int (nI (9 + 6 * f_30))]) (rest := []) C.1 (cX8_mass_ok l G (setRow (setRow (setRow X 15 (X.1 15)) 16 (X.1 16)) 20 (X.1 20)) (9 + 6 * f_30) (show 9 + 6 * f_30 + 4 ≤ 128 by omega)) (cwV 1 C.1.2.2.2.2 (gV qw_1575 qw_1577 qw_32 qw_81 qw_1578) rfl rfl rfl (by decide +kernel) ⟨Nat.le_of_ble_eq_true rfl, Nat.le_of_ble_eq_true rfl⟩) (g_rModel C hW_67 hS_68 [.int (nI (9 + 6 * f_30))]) rfl rfl hl_60.1 rfl (lv_room (Nat.le_of_ble_eq_true rfl)) dX8_backs_57 ⟨Nat.zero_le _, Nat.zero_le _⟩) hS_68 (fun r_71 Y_72 H_73 locs_74 hW_75 hS_76 h_70 => ?_)
        obtain ⟨h_70, hy_77⟩ := h_70
        replace hy_77 := hy_77.symm
        subst hy_77
        replace h_70 : r_71 = oM_mass (X.1 16) (9 + 6 * f_30) := h_70
        subst h_70
        refine lv_iload_n hx hb dX8_backs_60 rfl (lv_at hl_60 1 rfl) ?_
        refine lv_iadd hx hb dX8_backs_61 ?_
        refine lv_bipush (v := 100) hx hb dX8_backs_62 (by decide) ?_
        refine lv_icmp_le (tgt := 73) hx hb dX8_backs_64 (by decide) (fun b_78 => ?_) (fun b_78 => ?_)
        · refine lv_aload_n hx hb dX8_backs_73 rfl (lv_at hl_60 2 rfl) ?_
          refine lv_iload_n hx hb dX8_backs_74 rfl (lv_at hl_60 3 rfl) ?_
          refine g_calli (va_runS (As := [.int (nI f_20)]) (rest := [.ref (ad G 723)]) C.1 (cX8_ladle_ok l G (setRow (setRow (setRow X 15 (X.1 15)) 16 (X.1 16)) 20 (X.1 20)) (nI f_20)) (va_cwS 1 C.1.2.2.2.2 (gS qw_1473 qw_1474 qw_81 qw_1475) rfl rfl rfl (by decide +kernel) ⟨Nat.le_of_ble_eq_true rfl, Nat.le_of_ble_eq_true rfl⟩) (g_pre C hW_75 hS_76 [.int (nI f_20)]) rfl rfl hl_60.1 rfl (lv_room (Nat.le_of_ble_eq_true rfl)) dX8_backs_75 ⟨Nat.zero_le _, Nat.zero_le _⟩) hS_76 (fun r_80 Y_81 H_82 locs_83 hW_84 hS_85 h_79 => ?_)
          obtain ⟨h_79, hy_86⟩ := h_79
          replace hy_86 := hy_86.symm
          subst hy_86
          replace h_79 : r_80 = oM_ladle (nI f_20) := h_79
          subst h_79
          refine g_top (y := nI (27 + 5 * f_20)) (at_ladle f_20) ?_
          refine lv_iload_n hx hb dX8_backs_78 rfl (lv_at hl_60 1 rfl) ?_
          refine g_callv (va_runV (As := [.int (nI (27 + 5 * f_20)), .int v_47]) (rest := []) C.1 (cX8_takes_ok l G (setRow (setRow (setRow X 15 (X.1 15)) 16 (X.1 16)) 20 (X.1 20)) (27 + 5 * f_20) v_47 (show 27 + 5 * f_20 + 4 ≤ 128 by omega) (by subst ev_58; subst ev_47; exact b_61)) (cwV 2 C.1.2.2.2.2 (gV qw_1627 qw_1629 qw_42 qw_81 qw_1630) rfl rfl rfl (by decide +kernel) ⟨Nat.le_of_ble_eq_true rfl, Nat.le_of_ble_eq_true rfl⟩) (g_rModel C hW_84 hS_85 [.int (nI (27 + 5 * f_20)), .int v_47]) rfl rfl hl_60.1 rfl (lv_room (Nat.le_of_ble_eq_true rfl)) dX8_backs_79 ⟨Nat.zero_le _, Nat.zero_le _⟩) hS_85 (fun Y_88 H_89 locs_90 hW_91 hS_92 h_87 => ?_)
          replace h_87 : Y_88 = setRow (setRow (setRow (setRow (setRow X 15 (X.1 15)) 16 (X.1 16)) 20 (X.1 20)) 16 ((oM_takes (X.1 16) (X.1 20) (27 + 5 * f_20) v_47).1)) 20 ((oM_takes (X.1 16) (X.1 20) (27 + 5 * f_20) v_47).2) := h_87
          obtain ⟨w_93, ew_93⟩ : ∃ Z9, Z9 = (oM_takes (X.1 16) (X.1 20) (27 + 5 * f_20) v_47).1 := ⟨_, rfl⟩
          obtain ⟨w_94, ew_94⟩ : ∃ Z9, Z9 = (oM_takes (X.1 16) (X.1 20) (27 + 5 * f_20) v_47).2 := ⟨_, rfl⟩
          have qqw_93 : Y_88 = setRow (setRow (setRow (setRow (setRow X 15 (X.1 15)) 16 (X.1 16)) 20 (X.1 20)) 16 w_93) 20 w_94 := by rw [h_87, ew_93, ew_94]
          have hW_95 : Wd G (setRow (setRow (setRow X 15 (X.1 15)) 16 w_93) 20 w_94) H_89 := Wd.cast (((qqw_93).trans (congrArg (fun Z9 => setRow (Z9) 20 w_94) (sr_in (by decide) sr_out))).trans (congrArg (fun Z9 => Z9) sr_out)) hW_91
          refine lv_aload_n hx hb dX8_backs_82 rfl (lv_at hl_60 2 rfl) ?_
          refine lv_iload_n hx hb dX8_backs_83 rfl (lv_at hl_60 3 rfl) ?_
          refine g_callv (va_runV (As := [.int (nI f_20)]) (rest := []) C.1 (cX8_cools_ok l G (setRow (setRow (setRow X 15 (X.1 15)) 16 w_93) 20 w_94) f_20 (show f_20 < 3 by omega)) (cwV 1 C.1.2.2.2.2 (gV qw_1643 qw_1645 qw_45 qw_81 qw_1646) rfl rfl rfl (by decide +kernel) ⟨Nat.le_of_ble_eq_true rfl, Nat.le_of_ble_eq_true rfl⟩) (g_rModel C hW_95 hS_92 [.int (nI f_20)]) rfl rfl hl_60.1 rfl (lv_room (Nat.le_of_ble_eq_true rfl)) dX8_backs_84 ⟨Nat.zero_le _, Nat.zero_le _⟩) hS_92 (fun Y_97 H_98 locs_99 hW_100 hS_101 h_96 => ?_)
          replace h_96 : Y_97 = setRow (setRow (setRow (setRow X 15 (X.1 15)) 16 w_93) 20 w_94) 16 (oM_cools w_93 f_20) := h_96
          obtain ⟨w_102, ew_102⟩ : ∃ Z9, Z9 = oM_cools w_93 f_20 := ⟨_, rfl⟩
          have qqw_102 : Y_97 = setRow (setRow (setRow (setRow X 15 (X.1 15)) 16 w_93) 20 w_94) 16 w_102 := by rw [h_96, ew_102]
          have hW_103 : Wd G (setRow (setRow (setRow X 15 (X.1 15)) 16 w_102) 20 w_94) H_98 := Wd.cast ((qqw_102).trans (congrArg (fun Z9 => Z9) (sr_in (by decide) sr_out))) hW_100
          refine lv_aload_n hx hb dX8_backs_87 rfl (lv_at hl_60 2 rfl) ?_
          refine lv_iload_n hx hb dX8_backs_88 rfl (lv_at hl_60 4 rfl) ?_
          refine lv_iload hx hb dX8_backs_89 (lv_at hl_60 0 rfl) ?_
          refine g_calli (va_runV (As := [.int (nI f_30), .int v_58]) (rest := []) C.1 (cX8_feeds_ok l G (setRow (setRow (setRow X 15 (X.1 15)) 16 w_102) 20 w_94) f_30 v_58 (show f_30 < 3 by omega) (by subst ew_102; subst ew_94; subst ew_93; subst ev_58; subst ev_47; exact nz_backs (hm.2.1 f_20 (by omega)) (hm.1 f_30 (by omega)) b_61 (by omega))) (cwV 2 C.1.2.2.2.2 (gV qw_1579 qw_1581 qw_33 qw_81 qw_1582) rfl rfl rfl (by decide +kernel) ⟨Nat.le_of_ble_eq_true rfl, Nat.le_of_ble_eq_true rfl⟩) (g_rModel C hW_103 hS_101 [.int (nI f_30), .int v_58]) rfl rfl hl_60.1 rfl (lv_room (Nat.le_of_ble_eq_true rfl)) dX8_backs_91 ⟨Nat.zero_le _, Nat.zero_le _⟩) hS_101 (fun r_105 Y_106 H_107 locs_108 hW_109 hS_110 h_104 => ?_)
          obtain ⟨h_111, h_104⟩ := h_104
          replace h_111 : r_105 = (oM_feeds w_102 w_94 f_30 v_58).1 := h_111
          subst h_111
          replace h_104 : Y_106 = setRow (setRow (setRow (setRow X 15 (X.1 15)) 16 w_102) 20 w_94) 16 ((oM_feeds w_102 w_94 f_30 v_58).2) := h_104
          obtain ⟨w_112, ew_112⟩ : ∃ Z9, Z9 = (oM_feeds w_102 w_94 f_30 v_58).2 := ⟨_, rfl⟩
          have qqw_112 : Y_106 = setRow (setRow (setRow (setRow X 15 (X.1 15)) 16 w_102) 20 w_94) 16 w_112 := by rw [h_104, ew_112]
          have hW_113 : Wd G (setRow (setRow (setRow X 15 (X.1 15)) 16 w_112) 20 w_94) H_107 := Wd.cast ((qqw_112).trans (congrArg (fun Z9 => Z9) (sr_in (by decide) sr_out))) hW_109
          exact g_iret C hr hlk hW_113 hS_110 dX8_backs_94 (by subst ew_112; subst ew_102; subst ew_94; subst ew_93; subst ev_58; subst ev_47; exact ⟨(by first | rfl | (simp only [oM_backs, clf (show f_20 < 2 ^ 31 by omega), clf (show f_30 < 2 ^ 31 by omega), b_9, b_29, b_61, b_78, if_true, if_false]; first | done | rfl)), (by first | rfl | (simp only [oM_backs, clf (show f_20 < 2 ^ 31 by omega), clf (show f_30 < 2 ^ 31 by omega), b_9, b_29, b_61, b_78, if_true, if_false]; first | done | rfl))⟩)
        · refine lv_aload_n hx hb dX8_backs_67 rfl (lv_at hl_60 2 rfl) ?_
          refine lv_iconst (v := 3) hx hb dX8_backs_68 (by decide) ?_
          refine g_calli (va_runV (As := [.int 3]) (rest := []) C.1 (cX8_fail_ok l G (setRow (setRow (setRow X 15 (X.1 15)) 16 (X.1 16)) 20 (X.1 20)) 3) (cwV 1 C.1.2.2.2.2 (gV qw_1571 qw_1573 qw_31 qw_81 qw_1574) rfl rfl rfl (by decide +kernel) ⟨Nat.le_of_ble_eq_true rfl, Nat.le_of_ble_eq_true rfl⟩) (g_rModel C hW_75 hS_76 [.int 3]) rfl rfl hl_60.1 rfl (lv_room (Nat.le_of_ble_eq_true rfl)) dX8_backs_69 ⟨Nat.zero_le _, Nat.zero_le _⟩) hS_76 (fun r_115 Y_116 H_117 locs_118 hW_119 hS_120 h_114 => ?_)
          obtain ⟨h_121, h_114⟩ := h_114
          replace h_121 : r_115 = (oM_fail (X.1 15) 3).1 := h_121
          subst h_121
          replace h_114 : Y_116 = setRow (setRow (setRow (setRow X 15 (X.1 15)) 16 (X.1 16)) 20 (X.1 20)) 15 ((oM_fail (X.1 15) 3).2) := h_114
          obtain ⟨w_122, ew_122⟩ : ∃ Z9, Z9 = (oM_fail (X.1 15) 3).2 := ⟨_, rfl⟩
          have qqw_122 : Y_116 = setRow (setRow (setRow (setRow X 15 (X.1 15)) 16 (X.1 16)) 20 (X.1 20)) 15 w_122 := by rw [h_114, ew_122]
          have hW_123 : Wd G (setRow (setRow (setRow X 15 w_122) 16 (X.1 16)) 20 (X.1 20)) H_117 := Wd.cast ((qqw_122).trans (congrArg (fun Z9 => Z9) (sr_in (by decide) (sr_in (by decide) sr_out)))) hW_119
          exact g_iret C hr hlk hW_123 hS_120 dX8_backs_72 (by subst ew_122; subst ev_58; subst ev_47; exact ⟨(by first | rfl | (simp only [oM_backs, clf (show f_20 < 2 ^ 31 by omega), clf (show f_30 < 2 ^ 31 by omega), b_9, b_29, b_61, b_78, if_true, if_false]; first | done | rfl)), (by first | rfl | (simp only [oM_backs, clf (show f_20 < 2 ^ 31 by omega), clf (show f_30 < 2 ^ 31 by omega), b_9, b_29, b_61, b_78, if_true, if_false]; first | done | rfl))⟩)
      · refine lv_aload_n hx hb dX8_backs_46 rfl (lv_at hl_60 2 rfl) ?_
        refine lv_iconst (v := 2) hx hb dX8_backs_47 (by decide) ?_
        refine g_calli (va_runV (As := [.int 2]) (rest := []) C.1 (cX8_fail_ok l G (setRow (setRow (setRow X 15 (X.1 15)) 16 (X.1 16)) 20 (X.1 20)) 2) (cwV 1 C.1.2.2.2.2 (gV qw_1571 qw_1573 qw_31 qw_81 qw_1574) rfl rfl rfl (by decide +kernel) ⟨Nat.le_of_ble_eq_true rfl, Nat.le_of_ble_eq_true rfl⟩) (g_rModel C hW_55 hS_56 [.int 2]) rfl rfl hl_60.1 rfl (lv_room (Nat.le_of_ble_eq_true rfl)) dX8_backs_48 ⟨Nat.zero_le _, Nat.zero_le _⟩) hS_56 (fun r_125 Y_126 H_127 locs_128 hW_129 hS_130 h_124 => ?_)
        obtain ⟨h_131, h_124⟩ := h_124
        replace h_131 : r_125 = (oM_fail (X.1 15) 2).1 := h_131
        subst h_131
        replace h_124 : Y_126 = setRow (setRow (setRow (setRow X 15 (X.1 15)) 16 (X.1 16)) 20 (X.1 20)) 15 ((oM_fail (X.1 15) 2).2) := h_124
        obtain ⟨w_132, ew_132⟩ : ∃ Z9, Z9 = (oM_fail (X.1 15) 2).2 := ⟨_, rfl⟩
        have qqw_132 : Y_126 = setRow (setRow (setRow (setRow X 15 (X.1 15)) 16 (X.1 16)) 20 (X.1 20)) 15 w_132 := by rw [h_124, ew_132]
        have hW_133 : Wd G (setRow (setRow (setRow X 15 w_132) 16 (X.1 16)) 20 (X.1 20)) H_127 := Wd.cast ((qqw_132).trans (congrArg (fun Z9 => Z9) (sr_in (by decide) (sr_in (by decide) sr_out)))) hW_129
        exact g_iret C hr hlk hW_133 hS_130 dX8_backs_51 (by subst ew_132; subst ev_58; subst ev_47; exact ⟨(by first | rfl | (simp only [oM_backs, clf (show f_20 < 2 ^ 31 by omega), clf (show f_30 < 2 ^ 31 by omega), b_9, b_29, eq_true b_61, if_true, if_false]; first | done | rfl)), (by first | rfl | (simp only [oM_backs, clf (show f_20 < 2 ^ 31 by omega), clf (show f_30 < 2 ^ 31 by omega), b_9, b_29, eq_true b_61, if_true, if_false]; first | done | rfl))⟩)
    · refine lv_aload_n hx hb dX8_backs_14 rfl (lv_at hl 0 rfl) ?_
      refine lv_iconst (v := 1) hx hb dX8_backs_15 (by decide) ?_
      refine g_calli (va_runV (As := [.int 1]) (rest := []) C.1 (cX8_fail_ok l G (setRow (setRow (setRow X 15 (X.1 15)) 16 (X.1 16)) 20 (X.1 20)) 1) (cwV 1 C.1.2.2.2.2 (gV qw_1571 qw_1573 qw_31 qw_81 qw_1574) rfl rfl rfl (by decide +kernel) ⟨Nat.le_of_ble_eq_true rfl, Nat.le_of_ble_eq_true rfl⟩) (g_rModel C hW_26 hS_27 [.int 1]) rfl rfl hl.1 rfl (lv_room (Nat.le_of_ble_eq_true rfl)) dX8_backs_16 ⟨Nat.zero_le _, Nat.zero_le _⟩) hS_27 (fun r_135 Y_136 H_137 locs_138 hW_139 hS_140 h_134 => ?_)
      obtain ⟨h_141, h_134⟩ := h_134
      replace h_141 : r_135 = (oM_fail (X.1 15) 1).1 := h_141
      subst h_141
      replace h_134 : Y_136 = setRow (setRow (setRow (setRow X 15 (X.1 15)) 16 (X.1 16)) 20 (X.1 20)) 15 ((oM_fail (X.1 15) 1).2) := h_134
      obtain ⟨w_142, ew_142⟩ : ∃ Z9, Z9 = (oM_fail (X.1 15) 1).2 := ⟨_, rfl⟩
      have qqw_142 : Y_136 = setRow (setRow (setRow (setRow X 15 (X.1 15)) 16 (X.1 16)) 20 (X.1 20)) 15 w_142 := by rw [h_134, ew_142]
      have hW_143 : Wd G (setRow (setRow (setRow X 15 w_142) 16 (X.1 16)) 20 (X.1 20)) H_137 := Wd.cast ((qqw_142).trans (congrArg (fun Z9 => Z9) (sr_in (by decide) (sr_in (by decide) sr_out)))) hW_139
      exact g_iret C hr hlk hW_143 hS_140 dX8_backs_19 (by subst ew_142; exact ⟨(by first | rfl | (simp only [oM_backs, clf (show f_20 < 2 ^ 31 by omega), b_9, eq_true b_29, if_true, if_false]; first | done | rfl)), (by first | rfl | (simp only [oM_backs, clf (show f_20 < 2 ^ 31 by omega), b_9, eq_true b_29, if_true, if_false]; first | done | rfl))⟩)

def oM_addsMould (w15 : Nat → Int32) (w16 : Nat → Int32) (volume : Int32) : Int32 × ((Nat → Int32) × (Nat → Int32)) := if oM_isIn volume 1 40 = 0 then ((oM_fail (w15) 1).1, ((oM_fail (w15) 1).2), w16) else (if w16 42 = 6 then ((oM_fail (w15) 2).1, ((oM_fail (w15) 2).2), w16) else (w16 42, w15, (upd (upd (upd (upd (upd (upd (upd (w16) (44 + 6 * ((w16 42).toNatClampNeg)) 0) ((44 + 6 * ((w16 42).toNatClampNeg)) + 1) 0) ((44 + 6 * ((w16 42).toNatClampNeg)) + 2) 0) ((44 + 6 * ((w16 42).toNatClampNeg)) + 3) 0) ((44 + 6 * ((w16 42).toNatClampNeg)) + 4) volume) ((44 + 6 * ((w16 42).toNatClampNeg)) + 5) 0) (42) (nI (((w16 42).toNatClampNeg) + 1)))))
set_option maxHeartbeats 4000000 in
set_option maxRecDepth 100000 in
theorem cX8_addsMould_ok (l : Launch) (G : GT) (X : St) (volume : Int32) (hm : MInv (X.1 16)) : MetI l G yX8_addsMould (wsG yX8_addsMould cX8_addsMould 4 (some .int)) (rmz 1 22) [.ref (ad G 723), .int volume] X (fun res Y => res = (oM_addsMould (X.1 15) (X.1 16) volume).1 ∧ Y = setRow (setRow (X) 15 ((oM_addsMould (X.1 15) (X.1 16) volume).2.1)) 16 ((oM_addsMould (X.1 15) (X.1 16) volume).2.2)) := by
  refine g_met (cc := cX8_addsMould) (maxL := 4) (ret := (some .int)) (by decide) rfl (Nat.le_of_ble_eq_true rfl) ?_
  intro p e s m below meth c ls C hr hlk hnm hW hl
  have hx := C.1.1
  have hb := C.1.2.1
  have hS : va_S (Ab G) s.heap s.heap [] := va_S.rf
  have hl : lv_has ls 4 [(0, .ref (ad G 723)), (1, .int volume)] := hl
  have hW : Wd G (setRow (setRow (X) 15 (X.1 15)) 16 (X.1 16)) s.heap := Wd.cast (((sr_same (X := setRow (X) 15 (X.1 15)) (r := 16) rfl).trans (sr_same (X := X) (r := 15) rfl))).symm hW
  obtain ⟨km, hkm, em, hmm⟩ := hm.2.2.1
  obtain ⟨ki, hki, ei, hii⟩ := hm.2.2.2.1
  refine lv_iload_n hx hb dX8_addsMould_0 rfl (lv_at hl 1 rfl) ?_
  refine lv_iconst (v := 1) hx hb dX8_addsMould_1 (by decide) ?_
  refine lv_bipush (v := 40) hx hb dX8_addsMould_2 (by decide) ?_
  refine g_calli (va_runS (As := [.int volume, .int 1, .int 40]) (rest := []) C.1 (cX8_isIn_ok l G (setRow (setRow X 15 (X.1 15)) 16 (X.1 16)) volume 1 40) (va_cwS 3 C.1.2.2.2.2 (gS qw_1568 qw_1569 qw_81 qw_1570) rfl rfl rfl (by decide +kernel) ⟨Nat.le_of_ble_eq_true rfl, Nat.le_of_ble_eq_true rfl⟩) (g_pre C hW hS [.int volume, .int 1, .int 40]) rfl rfl hl.1 rfl (lv_room (Nat.le_of_ble_eq_true rfl)) dX8_addsMould_4 ⟨Nat.zero_le _, Nat.zero_le _⟩) hS (fun r_2 Y_3 H_4 locs_5 hW_6 hS_7 h_1 => ?_)
  obtain ⟨h_1, hy_8⟩ := h_1
  replace hy_8 := hy_8.symm
  subst hy_8
  replace h_1 : r_2 = oM_isIn volume 1 40 := h_1
  subst h_1
  refine lv_if_ne (tgt := 16) hx hb dX8_addsMould_7 (by decide) (fun b_9 => ?_) (fun b_9 => ?_)
  · refine lv_aload_n hx hb dX8_addsMould_16 rfl (lv_at hl 0 rfl) ?_
    refine gM_v C hW_6 (hwc hwX8) (mc qw_1481) dX8_addsMould_17 ?_
    refine lv_bipush (v := 42) hx hb dX8_addsMould_20 (by decide) ?_
    refine gm_vld C hW_6 42 (by decide) (vlit (by decide)) dX8_addsMould_22 ?_
    refine g_top (y := X.1 16 (42)) (congrFun rd_out _) ?_
    refine g_top (y := nI km) em ?_
    refine lv_istore_n (lv' := [(2, .int (nI km)), (0, .ref (ad G 723)), (1, .int volume)]) hx hb dX8_addsMould_23 rfl hl (by decide) rfl (fun ls_10 hl_11 => ?_)
    refine lv_iload_n hx hb dX8_addsMould_24 rfl (lv_at hl_11 0 rfl) ?_
    refine lv_bipush (v := 6) hx hb dX8_addsMould_25 (by decide) ?_
    refine lv_icmp_ne (tgt := 36) hx hb dX8_addsMould_27 (by decide) (fun b_12 => ?_) (fun b_12 => ?_)
    · have hkm6 : km < 6 := Nat.lt_of_le_of_ne hkm (fun q => b_12 (by rw [q]; rfl))
      refine lv_iconst (v := 0) hx hb dX8_addsMould_36 (by decide) ?_
      refine lv_istore_n (lv' := [(3, .int 0), (2, .int (nI km)), (0, .ref (ad G 723)), (1, .int volume)]) hx hb dX8_addsMould_37 rfl hl_11 (by decide) rfl (fun ls_13 hl_14 => ?_)
      refine lv_iload_n hx hb dX8_addsMould_38 rfl (lv_at hl_14 0 rfl) ?_
      refine lv_bipush (v := 6) hx hb dX8_addsMould_39 (by decide) ?_
      refine lv_icmp_ge (tgt := 71) hx hb dX8_addsMould_41 (by decide) (fun h9 => absurd h9 (by decide)) (fun _ => ?_)
      refine lv_aload_n hx hb dX8_addsMould_44 rfl (lv_at hl_14 2 rfl) ?_
      refine gM_v C hW_6 (hwc hwX8) (mc qw_1481) dX8_addsMould_45 ?_
      refine lv_iload_n hx hb dX8_addsMould_48 rfl (lv_at hl_14 1 rfl) ?_
      refine g_calli (va_runS (As := [.int (nI km)]) (rest := [.ref (ad G 724)]) C.1 (cX8_mould_ok l G (setRow (setRow X 15 (X.1 15)) 16 (X.1 16)) (nI km)) (va_cwS 1 C.1.2.2.2.2 (gS qw_1655 qw_1656 qw_81 qw_1657) rfl rfl rfl (by decide +kernel) ⟨Nat.le_of_ble_eq_true rfl, Nat.le_of_ble_eq_true rfl⟩) (g_pre C hW_6 hS_7 [.int (nI km)]) rfl rfl hl_14.1 rfl (lv_room (Nat.le_of_ble_eq_true rfl)) dX8_addsMould_49 ⟨Nat.zero_le _, Nat.zero_le _⟩) hS_7 (fun r_16 Y_17 H_18 locs_19 hW_20 hS_21 h_15 => ?_)
      obtain ⟨h_15, hy_22⟩ := h_15
      replace hy_22 := hy_22.symm
      subst hy_22
      replace h_15 : r_16 = oM_mould (nI km) := h_15
      subst h_15
      refine g_top (y := nI (44 + 6 * km)) (at_mould km) ?_
      refine lv_iload_n hx hb dX8_addsMould_52 rfl (lv_at hl_14 0 rfl) ?_
      refine lv_iadd hx hb dX8_addsMould_53 ?_
      refine g_top (y := (nI (44 + 6 * km))) (Int32.add_zero _) ?_
      refine lv_iload_n hx hb dX8_addsMould_54 rfl (lv_at hl_14 0 rfl) ?_
      refine lv_iconst (v := 4) hx hb dX8_addsMould_55 (by decide) ?_
      refine lv_icmp_ne (tgt := 63) hx hb dX8_addsMould_56 (by decide) (fun _ => ?_) (fun h9 => absurd h9 (by decide))
      refine lv_iconst (v := 0) hx hb dX8_addsMould_63 (by decide) ?_
      refine gm_vst C hW_20 hS_21 (44 + 6 * km) (nI_clamp (by omega)) (vp_in_nI (show 44 + 6 * km < 128 by omega) (by decide)) dX8_addsMould_64 (fun H_23 locs_24 hW_25 hS_26 => ?_)
      obtain ⟨w_27, ew_27⟩ : ∃ Z9, Z9 = upd (X.1 16) (44 + 6 * km) 0 := ⟨_, rfl⟩
      have kn_28 : w_27 (42) = nI km := by rw [ew_27]; exact (pk_un (by omega)).trans em
      have kn_29 : w_27 (43) = nI ki := by rw [ew_27]; exact (pk_un (by omega)).trans ei
      have hW_30 : Wd G (setRow (setRow X 15 (X.1 15)) 16 w_27) H_23 := Wd.cast (by rw [ew_27]; exact st_out) hW_25
      refine lv_iinc (v := 1) (lv' := [(3, .int 1), (2, .int (nI km)), (0, .ref (ad G 723)), (1, .int volume)]) hx hb dX8_addsMould_65 hl_14 (k := 0) rfl (by decide) (by decide) rfl (fun ls_31 hl_32 => ?_)
      refine lv_goto (tgt := 38) hx hb dX8_addsMould_68 (by decide) ?_
      refine lv_iload_n hx hb dX8_addsMould_38 rfl (lv_at hl_32 0 rfl) ?_
      refine lv_bipush (v := 6) hx hb dX8_addsMould_39 (by decide) ?_
      refine lv_icmp_ge (tgt := 71) hx hb dX8_addsMould_41 (by decide) (fun h9 => absurd h9 (by decide)) (fun _ => ?_)
      refine lv_aload_n hx hb dX8_addsMould_44 rfl (lv_at hl_32 2 rfl) ?_
      refine gM_v C hW_30 (hwc hwX8) (mc qw_1481) dX8_addsMould_45 ?_
      refine lv_iload_n hx hb dX8_addsMould_48 rfl (lv_at hl_32 1 rfl) ?_
      refine g_calli (va_runS (As := [.int (nI km)]) (rest := [.ref (ad G 724)]) C.1 (cX8_mould_ok l G (setRow (setRow X 15 (X.1 15)) 16 w_27) (nI km)) (va_cwS 1 C.1.2.2.2.2 (gS qw_1655 qw_1656 qw_81 qw_1657) rfl rfl rfl (by decide +kernel) ⟨Nat.le_of_ble_eq_true rfl, Nat.le_of_ble_eq_true rfl⟩) (g_pre C hW_30 hS_26 [.int (nI km)]) rfl rfl hl_32.1 rfl (lv_room (Nat.le_of_ble_eq_true rfl)) dX8_addsMould_49 ⟨Nat.zero_le _, Nat.zero_le _⟩) hS_26 (fun r_34 Y_35 H_36 locs_37 hW_38 hS_39 h_33 => ?_)
      obtain ⟨h_33, hy_40⟩ := h_33
      replace hy_40 := hy_40.symm
      subst hy_40
      replace h_33 : r_34 = oM_mould (nI km) := h_33
      subst h_33
      refine g_top (y := nI (44 + 6 * km)) (at_mould km) ?_
      refine lv_iload_n hx hb dX8_addsMould_52 rfl (lv_at hl_32 0 rfl) ?_
      refine lv_iadd hx hb dX8_addsMould_53 ?_
      refine g_top (y := nI ((44 + 6 * km) + 1)) (nI_add (44 + 6 * km) 1) ?_
      refine lv_iload_n hx hb dX8_addsMould_54 rfl (lv_at hl_32 0 rfl) ?_
      refine lv_iconst (v := 4) hx hb dX8_addsMould_55 (by decide) ?_
      refine lv_icmp_ne (tgt := 63) hx hb dX8_addsMould_56 (by decide) (fun _ => ?_) (fun h9 => absurd h9 (by decide))
      refine lv_iconst (v := 0) hx hb dX8_addsMould_63 (by decide) ?_
      refine gm_vst C hW_38 hS_39 ((44 + 6 * km) + 1) (nI_clamp (by omega)) (vp_in_nI (show (44 + 6 * km) + 1 < 128 by omega) (by decide)) dX8_addsMould_64 (fun H_41 locs_42 hW_43 hS_44 => ?_)
      obtain ⟨w_45, ew_45⟩ : ∃ Z9, Z9 = upd w_27 ((44 + 6 * km) + 1) 0 := ⟨_, rfl⟩
      have kn_46 : w_45 (42) = nI km := by rw [ew_45]; exact (pk_un (by omega)).trans kn_28
      have kn_47 : w_45 (43) = nI ki := by rw [ew_45]; exact (pk_un (by omega)).trans kn_29
      have hW_48 : Wd G (setRow (setRow X 15 (X.1 15)) 16 w_45) H_41 := Wd.cast (by rw [ew_45]; exact st_out) hW_43
      refine lv_iinc (v := 2) (lv' := [(3, .int 2), (2, .int (nI km)), (0, .ref (ad G 723)), (1, .int volume)]) hx hb dX8_addsMould_65 hl_32 (k := 0) rfl (by decide) (by decide) rfl (fun ls_49 hl_50 => ?_)
      refine lv_goto (tgt := 38) hx hb dX8_addsMould_68 (by decide) ?_
      refine lv_iload_n hx hb dX8_addsMould_38 rfl (lv_at hl_50 0 rfl) ?_
      refine lv_bipush (v := 6) hx hb dX8_addsMould_39 (by decide) ?_
      refine lv_icmp_ge (tgt := 71) hx hb dX8_addsMould_41 (by decide) (fun h9 => absurd h9 (by decide)) (fun _ => ?_)
      refine lv_aload_n hx hb dX8_addsMould_44 rfl (lv_at hl_50 2 rfl) ?_
      refine gM_v C hW_48 (hwc hwX8) (mc qw_1481) dX8_addsMould_45 ?_
      refine lv_iload_n hx hb dX8_addsMould_48 rfl (lv_at hl_50 1 rfl) ?_
      refine g_calli (va_runS (As := [.int (nI km)]) (rest := [.ref (ad G 724)]) C.1 (cX8_mould_ok l G (setRow (setRow X 15 (X.1 15)) 16 w_45) (nI km)) (va_cwS 1 C.1.2.2.2.2 (gS qw_1655 qw_1656 qw_81 qw_1657) rfl rfl rfl (by decide +kernel) ⟨Nat.le_of_ble_eq_true rfl, Nat.le_of_ble_eq_true rfl⟩) (g_pre C hW_48 hS_44 [.int (nI km)]) rfl rfl hl_50.1 rfl (lv_room (Nat.le_of_ble_eq_true rfl)) dX8_addsMould_49 ⟨Nat.zero_le _, Nat.zero_le _⟩) hS_44 (fun r_52 Y_53 H_54 locs_55 hW_56 hS_57 h_51 => ?_)
      obtain ⟨h_51, hy_58⟩ := h_51
      replace hy_58 := hy_58.symm
      subst hy_58
      replace h_51 : r_52 = oM_mould (nI km) := h_51
      subst h_51
      refine g_top (y := nI (44 + 6 * km)) (at_mould km) ?_
      refine lv_iload_n hx hb dX8_addsMould_52 rfl (lv_at hl_50 0 rfl) ?_
      refine lv_iadd hx hb dX8_addsMould_53 ?_
      refine g_top (y := nI ((44 + 6 * km) + 2)) (nI_add (44 + 6 * km) 2) ?_
      refine lv_iload_n hx hb dX8_addsMould_54 rfl (lv_at hl_50 0 rfl) ?_
      refine lv_iconst (v := 4) hx hb dX8_addsMould_55 (by decide) ?_
      refine lv_icmp_ne (tgt := 63) hx hb dX8_addsMould_56 (by decide) (fun _ => ?_) (fun h9 => absurd h9 (by decide))
      refine lv_iconst (v := 0) hx hb dX8_addsMould_63 (by decide) ?_
      refine gm_vst C hW_56 hS_57 ((44 + 6 * km) + 2) (nI_clamp (by omega)) (vp_in_nI (show (44 + 6 * km) + 2 < 128 by omega) (by decide)) dX8_addsMould_64 (fun H_59 locs_60 hW_61 hS_62 => ?_)
      obtain ⟨w_63, ew_63⟩ : ∃ Z9, Z9 = upd w_45 ((44 + 6 * km) + 2) 0 := ⟨_, rfl⟩
      have kn_64 : w_63 (42) = nI km := by rw [ew_63]; exact (pk_un (by omega)).trans kn_46
      have kn_65 : w_63 (43) = nI ki := by rw [ew_63]; exact (pk_un (by omega)).trans kn_47
      have hW_66 : Wd G (setRow (setRow X 15 (X.1 15)) 16 w_63) H_59 := Wd.cast (by rw [ew_63]; exact st_out) hW_61
      refine lv_iinc (v := 3) (lv' := [(3, .int 3), (2, .int (nI km)), (0, .ref (ad G 723)), (1, .int volume)]) hx hb dX8_addsMould_65 hl_50 (k := 0) rfl (by decide) (by decide) rfl (fun ls_67 hl_68 => ?_)
      refine lv_goto (tgt := 38) hx hb dX8_addsMould_68 (by decide) ?_
      refine lv_iload_n hx hb dX8_addsMould_38 rfl (lv_at hl_68 0 rfl) ?_
      refine lv_bipush (v := 6) hx hb dX8_addsMould_39 (by decide) ?_
      refine lv_icmp_ge (tgt := 71) hx hb dX8_addsMould_41 (by decide) (fun h9 => absurd h9 (by decide)) (fun _ => ?_)
      refine lv_aload_n hx hb dX8_addsMould_44 rfl (lv_at hl_68 2 rfl) ?_
      refine gM_v C hW_66 (hwc hwX8) (mc qw_1481) dX8_addsMould_45 ?_
      refine lv_iload_n hx hb dX8_addsMould_48 rfl (lv_at hl_68 1 rfl) ?_
      refine g_calli (va_runS (As := [.int (nI km)]) (rest := [.ref (ad G 724)]) C.1 (cX8_mould_ok l G (setRow (setRow X 15 (X.1 15)) 16 w_63) (nI km)) (va_cwS 1 C.1.2.2.2.2 (gS qw_1655 qw_1656 qw_81 qw_1657) rfl rfl rfl (by decide +kernel) ⟨Nat.le_of_ble_eq_true rfl, Nat.le_of_ble_eq_true rfl⟩) (g_pre C hW_66 hS_62 [.int (nI km)]) rfl rfl hl_68.1 rfl (lv_room (Nat.le_of_ble_eq_true rfl)) dX8_addsMould_49 ⟨Nat.zero_le _, Nat.zero_le _⟩) hS_62 (fun r_70 Y_71 H_72 locs_73 hW_74 hS_75 h_69 => ?_)
      obtain ⟨h_69, hy_76⟩ := h_69
      replace hy_76 := hy_76.symm
      subst hy_76
      replace h_69 : r_70 = oM_mould (nI km) := h_69
      subst h_69
      refine g_top (y := nI (44 + 6 * km)) (at_mould km) ?_
      refine lv_iload_n hx hb dX8_addsMould_52 rfl (lv_at hl_68 0 rfl) ?_
      refine lv_iadd hx hb dX8_addsMould_53 ?_
      refine g_top (y := nI ((44 + 6 * km) + 3)) (nI_add (44 + 6 * km) 3) ?_
      refine lv_iload_n hx hb dX8_addsMould_54 rfl (lv_at hl_68 0 rfl) ?_
      refine lv_iconst (v := 4) hx hb dX8_addsMould_55 (by decide) ?_
      refine lv_icmp_ne (tgt := 63) hx hb dX8_addsMould_56 (by decide) (fun _ => ?_) (fun h9 => absurd h9 (by decide))
      refine lv_iconst (v := 0) hx hb dX8_addsMould_63 (by decide) ?_
      refine gm_vst C hW_74 hS_75 ((44 + 6 * km) + 3) (nI_clamp (by omega)) (vp_in_nI (show (44 + 6 * km) + 3 < 128 by omega) (by decide)) dX8_addsMould_64 (fun H_77 locs_78 hW_79 hS_80 => ?_)
      obtain ⟨w_81, ew_81⟩ : ∃ Z9, Z9 = upd w_63 ((44 + 6 * km) + 3) 0 := ⟨_, rfl⟩
      have kn_82 : w_81 (42) = nI km := by rw [ew_81]; exact (pk_un (by omega)).trans kn_64
      have kn_83 : w_81 (43) = nI ki := by rw [ew_81]; exact (pk_un (by omega)).trans kn_65
      have hW_84 : Wd G (setRow (setRow X 15 (X.1 15)) 16 w_81) H_77 := Wd.cast (by rw [ew_81]; exact st_out) hW_79
      refine lv_iinc (v := 4) (lv' := [(3, .int 4), (2, .int (nI km)), (0, .ref (ad G 723)), (1, .int volume)]) hx hb dX8_addsMould_65 hl_68 (k := 0) rfl (by decide) (by decide) rfl (fun ls_85 hl_86 => ?_)
      refine lv_goto (tgt := 38) hx hb dX8_addsMould_68 (by decide) ?_
      refine lv_iload_n hx hb dX8_addsMould_38 rfl (lv_at hl_86 0 rfl) ?_
      refine lv_bipush (v := 6) hx hb dX8_addsMould_39 (by decide) ?_
      refine lv_icmp_ge (tgt := 71) hx hb dX8_addsMould_41 (by decide) (fun h9 => absurd h9 (by decide)) (fun _ => ?_)
      refine lv_aload_n hx hb dX8_addsMould_44 rfl (lv_at hl_86 2 rfl) ?_
      refine gM_v C hW_84 (hwc hwX8) (mc qw_1481) dX8_addsMould_45 ?_
      refine lv_iload_n hx hb dX8_addsMould_48 rfl (lv_at hl_86 1 rfl) ?_
      refine g_calli (va_runS (As := [.int (nI km)]) (rest := [.ref (ad G 724)]) C.1 (cX8_mould_ok l G (setRow (setRow X 15 (X.1 15)) 16 w_81) (nI km)) (va_cwS 1 C.1.2.2.2.2 (gS qw_1655 qw_1656 qw_81 qw_1657) rfl rfl rfl (by decide +kernel) ⟨Nat.le_of_ble_eq_true rfl, Nat.le_of_ble_eq_true rfl⟩) (g_pre C hW_84 hS_80 [.int (nI km)]) rfl rfl hl_86.1 rfl (lv_room (Nat.le_of_ble_eq_true rfl)) dX8_addsMould_49 ⟨Nat.zero_le _, Nat.zero_le _⟩) hS_80 (fun r_88 Y_89 H_90 locs_91 hW_92 hS_93 h_87 => ?_)
      obtain ⟨h_87, hy_94⟩ := h_87
      replace hy_94 := hy_94.symm
      subst hy_94
      replace h_87 : r_88 = oM_mould (nI km) := h_87
      subst h_87
      refine g_top (y := nI (44 + 6 * km)) (at_mould km) ?_
      refine lv_iload_n hx hb dX8_addsMould_52 rfl (lv_at hl_86 0 rfl) ?_
      refine lv_iadd hx hb dX8_addsMould_53 ?_
      refine g_top (y := nI ((44 + 6 * km) + 4)) (nI_add (44 + 6 * km) 4) ?_
      refine lv_iload_n hx hb dX8_addsMould_54 rfl (lv_at hl_86 0 rfl) ?_
      refine lv_iconst (v := 4) hx hb dX8_addsMould_55 (by decide) ?_
      refine lv_icmp_ne (tgt := 63) hx hb dX8_addsMould_56 (by decide) (fun h9 => absurd h9 (by decide)) (fun _ => ?_)
      refine lv_iload_n hx hb dX8_addsMould_59 rfl (lv_at hl_86 3 rfl) ?_
      refine lv_goto (tgt := 64) hx hb dX8_addsMould_60 (by decide) ?_
      refine gm_vst C hW_92 hS_93 ((44 + 6 * km) + 4) (nI_clamp (by omega)) (vp_in_nI (show (44 + 6 * km) + 4 < 128 by omega) (by decide)) dX8_addsMould_64 (fun H_95 locs_96 hW_97 hS_98 => ?_)
      obtain ⟨w_99, ew_99⟩ : ∃ Z9, Z9 = upd w_81 ((44 + 6 * km) + 4) volume := ⟨_, rfl⟩
      have kn_100 : w_99 (42) = nI km := by rw [ew_99]; exact (pk_un (by omega)).trans kn_82
      have kn_101 : w_99 (43) = nI ki := by rw [ew_99]; exact (pk_un (by omega)).trans kn_83
      have hW_102 : Wd G (setRow (setRow X 15 (X.1 15)) 16 w_99) H_95 := Wd.cast (by rw [ew_99]; exact st_out) hW_97
      refine lv_iinc (v := 5) (lv' := [(3, .int 5), (2, .int (nI km)), (0, .ref (ad G 723)), (1, .int volume)]) hx hb dX8_addsMould_65 hl_86 (k := 0) rfl (by decide) (by decide) rfl (fun ls_103 hl_104 => ?_)
      refine lv_goto (tgt := 38) hx hb dX8_addsMould_68 (by decide) ?_
      refine lv_iload_n hx hb dX8_addsMould_38 rfl (lv_at hl_104 0 rfl) ?_
      refine lv_bipush (v := 6) hx hb dX8_addsMould_39 (by decide) ?_
      refine lv_icmp_ge (tgt := 71) hx hb dX8_addsMould_41 (by decide) (fun h9 => absurd h9 (by decide)) (fun _ => ?_)
      refine lv_aload_n hx hb dX8_addsMould_44 rfl (lv_at hl_104 2 rfl) ?_
      refine gM_v C hW_102 (hwc hwX8) (mc qw_1481) dX8_addsMould_45 ?_
      refine lv_iload_n hx hb dX8_addsMould_48 rfl (lv_at hl_104 1 rfl) ?_
      refine g_calli (va_runS (As := [.int (nI km)]) (rest := [.ref (ad G 724)]) C.1 (cX8_mould_ok l G (setRow (setRow X 15 (X.1 15)) 16 w_99) (nI km)) (va_cwS 1 C.1.2.2.2.2 (gS qw_1655 qw_1656 qw_81 qw_1657) rfl rfl rfl (by decide +kernel) ⟨Nat.le_of_ble_eq_true rfl, Nat.le_of_ble_eq_true rfl⟩) (g_pre C hW_102 hS_98 [.int (nI km)]) rfl rfl hl_104.1 rfl (lv_room (Nat.le_of_ble_eq_true rfl)) dX8_addsMould_49 ⟨Nat.zero_le _, Nat.zero_le _⟩) hS_98 (fun r_106 Y_107 H_108 locs_109 hW_110 hS_111 h_105 => ?_)
      obtain ⟨h_105, hy_112⟩ := h_105
      replace hy_112 := hy_112.symm
      subst hy_112
      replace h_105 : r_106 = oM_mould (nI km) := h_105
      subst h_105
      refine g_top (y := nI (44 + 6 * km)) (at_mould km) ?_
      refine lv_iload_n hx hb dX8_addsMould_52 rfl (lv_at hl_104 0 rfl) ?_
      refine lv_iadd hx hb dX8_addsMould_53 ?_
      refine g_top (y := nI ((44 + 6 * km) + 5)) (nI_add (44 + 6 * km) 5) ?_
      refine lv_iload_n hx hb dX8_addsMould_54 rfl (lv_at hl_104 0 rfl) ?_
      refine lv_iconst (v := 4) hx hb dX8_addsMould_55 (by decide) ?_
      refine lv_icmp_ne (tgt := 63) hx hb dX8_addsMould_56 (by decide) (fun _ => ?_) (fun h9 => absurd h9 (by decide))
      refine lv_iconst (v := 0) hx hb dX8_addsMould_63 (by decide) ?_
      refine gm_vst C hW_110 hS_111 ((44 + 6 * km) + 5) (nI_clamp (by omega)) (vp_in_nI (show (44 + 6 * km) + 5 < 128 by omega) (by decide)) dX8_addsMould_64 (fun H_113 locs_114 hW_115 hS_116 => ?_)
      obtain ⟨w_117, ew_117⟩ : ∃ Z9, Z9 = upd w_99 ((44 + 6 * km) + 5) 0 := ⟨_, rfl⟩
      have kn_118 : w_117 (42) = nI km := by rw [ew_117]; exact (pk_un (by omega)).trans kn_100
      have kn_119 : w_117 (43) = nI ki := by rw [ew_117]; exact (pk_un (by omega)).trans kn_101
      have hW_120 : Wd G (setRow (setRow X 15 (X.1 15)) 16 w_117) H_113 := Wd.cast (by rw [ew_117]; exact st_out) hW_115
      refine lv_iinc (v := 6) (lv' := [(3, .int 6), (2, .int (nI km)), (0, .ref (ad G 723)), (1, .int volume)]) hx hb dX8_addsMould_65 hl_104 (k := 0) rfl (by decide) (by decide) rfl (fun ls_121 hl_122 => ?_)
      refine lv_goto (tgt := 38) hx hb dX8_addsMould_68 (by decide) ?_
      refine lv_iload_n hx hb dX8_addsMould_38 rfl (lv_at hl_122 0 rfl) ?_
      refine lv_bipush (v := 6) hx hb dX8_addsMould_39 (by decide) ?_
      refine lv_icmp_ge (tgt := 71) hx hb dX8_addsMould_41 (by decide) (fun _ => ?_) (fun h9 => absurd h9 (by decide))
      refine lv_aload_n hx hb dX8_addsMould_71 rfl (lv_at hl_122 2 rfl) ?_
      refine gM_v C hW_120 (hwc hwX8) (mc qw_1481) dX8_addsMould_72 ?_
      refine lv_bipush (v := 42) hx hb dX8_addsMould_75 (by decide) ?_
      refine lv_dup2_11 hx hb dX8_addsMould_77 rfl rfl ?_
      refine gm_vld C hW_120 42 (by decide) (vlit (by decide)) dX8_addsMould_78 ?_
      refine g_top (y := w_117 (42)) (congrFun rd_out _) ?_
      refine g_top (y := nI km) kn_118 ?_
      refine lv_iconst (v := 1) hx hb dX8_addsMould_79 (by decide) ?_
      refine lv_iadd hx hb dX8_addsMould_80 ?_
      refine g_top (y := nI (km + 1)) (nI_add km 1) ?_
      refine gm_vst C hW_120 hS_116 42 (by decide) (vlit (by decide)) dX8_addsMould_81 (fun H_123 locs_124 hW_125 hS_126 => ?_)
      obtain ⟨w_127, ew_127⟩ : ∃ Z9, Z9 = upd w_117 (42) (nI (km + 1)) := ⟨_, rfl⟩
      have kn_128 : w_127 (43) = nI ki := by rw [ew_127]; exact (pk_un (by omega)).trans kn_119
      have kn_129 : w_127 (42) = nI (km + 1) := by rw [ew_127]; exact pk_us
      have hW_130 : Wd G (setRow (setRow X 15 (X.1 15)) 16 w_127) H_123 := Wd.cast (by rw [ew_127]; exact st_out) hW_125
      refine lv_iload_n hx hb dX8_addsMould_82 rfl (lv_at hl_122 1 rfl) ?_
      exact g_iret C hr hlk hW_130 hS_126 dX8_addsMould_83 (by subst ew_127; subst ew_117; subst ew_99; subst ew_81; subst ew_63; subst ew_45; subst ew_27; exact ⟨(by first | rfl | (simp only [oM_addsMould, b_9, b_12, if_true, if_false, em, ei, clf (show km < 2 ^ 31 by omega), clf (show ki < 2 ^ 31 by omega), nI_1]; first | done | rfl)), (by first | rfl | (simp only [oM_addsMould, b_9, b_12, if_true, if_false, em, ei, clf (show km < 2 ^ 31 by omega), clf (show ki < 2 ^ 31 by omega), nI_1]; first | done | rfl))⟩)
    · have fb_12 : km = 6 := (nI_eq (a := km) (b := 6) (by omega) (by omega)).mp b_12
      refine lv_aload_n hx hb dX8_addsMould_30 rfl (lv_at hl_11 1 rfl) ?_
      refine lv_iconst (v := 2) hx hb dX8_addsMould_31 (by decide) ?_
      refine g_calli (va_runV (As := [.int 2]) (rest := []) C.1 (cX8_fail_ok l G (setRow (setRow X 15 (X.1 15)) 16 (X.1 16)) 2) (cwV 1 C.1.2.2.2.2 (gV qw_1571 qw_1573 qw_31 qw_81 qw_1574) rfl rfl rfl (by decide +kernel) ⟨Nat.le_of_ble_eq_true rfl, Nat.le_of_ble_eq_true rfl⟩) (g_rModel C hW_6 hS_7 [.int 2]) rfl rfl hl_11.1 rfl (lv_room (Nat.le_of_ble_eq_true rfl)) dX8_addsMould_32 ⟨Nat.zero_le _, Nat.zero_le _⟩) hS_7 (fun r_132 Y_133 H_134 locs_135 hW_136 hS_137 h_131 => ?_)
      obtain ⟨h_138, h_131⟩ := h_131
      replace h_138 : r_132 = (oM_fail (X.1 15) 2).1 := h_138
      subst h_138
      replace h_131 : Y_133 = setRow (setRow (setRow X 15 (X.1 15)) 16 (X.1 16)) 15 ((oM_fail (X.1 15) 2).2) := h_131
      obtain ⟨w_139, ew_139⟩ : ∃ Z9, Z9 = (oM_fail (X.1 15) 2).2 := ⟨_, rfl⟩
      have qqw_139 : Y_133 = setRow (setRow (setRow X 15 (X.1 15)) 16 (X.1 16)) 15 w_139 := by rw [h_131, ew_139]
      have hW_140 : Wd G (setRow (setRow X 15 w_139) 16 (X.1 16)) H_134 := Wd.cast ((qqw_139).trans (congrArg (fun Z9 => Z9) (sr_in (by decide) sr_out))) hW_136
      exact g_iret C hr hlk hW_140 hS_137 dX8_addsMould_35 (by subst ew_139; exact ⟨(by first | rfl | (simp only [oM_addsMould, b_9, eq_true b_12, if_true, if_false, em, ei, clf (show km < 2 ^ 31 by omega), clf (show ki < 2 ^ 31 by omega), nI_1]; first | done | rfl)), (by first | rfl | (simp only [oM_addsMould, b_9, eq_true b_12, if_true, if_false, em, ei, clf (show km < 2 ^ 31 by omega), clf (show ki < 2 ^ 31 by omega), nI_1]; first | done | rfl))⟩)
  · refine lv_aload_n hx hb dX8_addsMould_10 rfl (lv_at hl 0 rfl) ?_
    refine lv_iconst (v := 1) hx hb dX8_addsMould_11 (by decide) ?_
    refine g_calli (va_runV (As := [.int 1]) (rest := []) C.1 (cX8_fail_ok l G (setRow (setRow X 15 (X.1 15)) 16 (X.1 16)) 1) (cwV 1 C.1.2.2.2.2 (gV qw_1571 qw_1573 qw_31 qw_81 qw_1574) rfl rfl rfl (by decide +kernel) ⟨Nat.le_of_ble_eq_true rfl, Nat.le_of_ble_eq_true rfl⟩) (g_rModel C hW_6 hS_7 [.int 1]) rfl rfl hl.1 rfl (lv_room (Nat.le_of_ble_eq_true rfl)) dX8_addsMould_12 ⟨Nat.zero_le _, Nat.zero_le _⟩) hS_7 (fun r_142 Y_143 H_144 locs_145 hW_146 hS_147 h_141 => ?_)
    obtain ⟨h_148, h_141⟩ := h_141
    replace h_148 : r_142 = (oM_fail (X.1 15) 1).1 := h_148
    subst h_148
    replace h_141 : Y_143 = setRow (setRow (setRow X 15 (X.1 15)) 16 (X.1 16)) 15 ((oM_fail (X.1 15) 1).2) := h_141
    obtain ⟨w_149, ew_149⟩ : ∃ Z9, Z9 = (oM_fail (X.1 15) 1).2 := ⟨_, rfl⟩
    have qqw_149 : Y_143 = setRow (setRow (setRow X 15 (X.1 15)) 16 (X.1 16)) 15 w_149 := by rw [h_141, ew_149]
    have hW_150 : Wd G (setRow (setRow X 15 w_149) 16 (X.1 16)) H_144 := Wd.cast ((qqw_149).trans (congrArg (fun Z9 => Z9) (sr_in (by decide) sr_out))) hW_146
    exact g_iret C hr hlk hW_150 hS_147 dX8_addsMould_15 (by subst ew_149; exact ⟨(by first | rfl | (simp only [oM_addsMould, eq_true b_9, if_true, if_false, em, ei, clf (show km < 2 ^ 31 by omega), clf (show ki < 2 ^ 31 by omega), nI_1]; first | done | rfl)), (by first | rfl | (simp only [oM_addsMould, eq_true b_9, if_true, if_false, em, ei, clf (show km < 2 ^ 31 by omega), clf (show ki < 2 ^ 31 by omega), nI_1]; first | done | rfl))⟩)

def oM_pours (w15 : Nat → Int32) (w16 : Nat → Int32) (w20 : Nat → Int32) (w21 : Nat → Int32) (la : Int32) (mo : Int32) : Int32 × ((Nat → Int32) × ((Nat → Int32) × (Nat → Int32))) := if oM_isThree la = 0 then ((oM_fail (w15) 1).1, ((oM_fail (w15) 1).2), w16, w20) else (if oM_isMould (w16) mo = 0 then ((oM_fail (w15) 1).1, ((oM_fail (w15) 1).2), w16, w20) else (if w16 ((44 + 6 * mo.toNatClampNeg) + 5) = 1 then ((oM_fail (w15) 2).1, ((oM_fail (w15) 2).2), w16, w20) else (if (w16 ((44 + 6 * mo.toNatClampNeg) + 4)) ≤ oM_mass (w16) (27 + 5 * la.toNatClampNeg) then (if oM_isFluid (w16) (w21) (27 + 5 * la.toNatClampNeg) = 0 then ((oM_fail (w15) 4).1, ((oM_fail (w15) 4).2), w16, w20) else (oM_mass (oM_cools (upd (oM_adds ((oM_takes (w16) (w20) (27 + 5 * la.toNatClampNeg) (w16 ((44 + 6 * mo.toNatClampNeg) + 4))).1) ((oM_takes (w16) (w20) (27 + 5 * la.toNatClampNeg) (w16 ((44 + 6 * mo.toNatClampNeg) + 4))).2) (44 + 6 * mo.toNatClampNeg)) ((44 + 6 * mo.toNatClampNeg) + 5) 1) la.toNatClampNeg) (27 + 5 * la.toNatClampNeg), w15, (oM_cools (upd (oM_adds ((oM_takes (w16) (w20) (27 + 5 * la.toNatClampNeg) (w16 ((44 + 6 * mo.toNatClampNeg) + 4))).1) ((oM_takes (w16) (w20) (27 + 5 * la.toNatClampNeg) (w16 ((44 + 6 * mo.toNatClampNeg) + 4))).2) (44 + 6 * mo.toNatClampNeg)) ((44 + 6 * mo.toNatClampNeg) + 5) 1) la.toNatClampNeg), ((oM_takes (w16) (w20) (27 + 5 * la.toNatClampNeg) (w16 ((44 + 6 * mo.toNatClampNeg) + 4))).2))) else ((oM_fail (w15) 3).1, ((oM_fail (w15) 3).2), w16, w20))))
set_option maxHeartbeats 4000000 in
set_option maxRecDepth 100000 in
theorem cX8_pours_ok (l : Launch) (G : GT) (X : St) (la : Int32) (mo : Int32) (hm : MInv (X.1 16)) : MetI l G yX8_pours (wsG yX8_pours cX8_pours 5 (some .int)) (rmz 3 65) [.ref (ad G 723), .int la, .int mo] X (fun res Y => res = (oM_pours (X.1 15) (X.1 16) (X.1 20) (X.1 21) la mo).1 ∧ Y = setRow (setRow (setRow (X) 15 ((oM_pours (X.1 15) (X.1 16) (X.1 20) (X.1 21) la mo).2.1)) 16 ((oM_pours (X.1 15) (X.1 16) (X.1 20) (X.1 21) la mo).2.2.1)) 20 ((oM_pours (X.1 15) (X.1 16) (X.1 20) (X.1 21) la mo).2.2.2)) := by
  refine g_met (cc := cX8_pours) (maxL := 5) (ret := (some .int)) (by decide) rfl (Nat.le_of_ble_eq_true rfl) ?_
  intro p e s m below meth c ls C hr hlk hnm hW hl
  have hx := C.1.1
  have hb := C.1.2.1
  have hS : va_S (Ab G) s.heap s.heap [] := va_S.rf
  have hl : lv_has ls 5 [(0, .ref (ad G 723)), (1, .int la), (2, .int mo)] := hl
  have hW : Wd G (setRow (setRow (setRow (X) 15 (X.1 15)) 16 (X.1 16)) 20 (X.1 20)) s.heap := Wd.cast ((((sr_same (X := setRow (setRow (X) 15 (X.1 15)) 16 (X.1 16)) (r := 20) rfl).trans (sr_same (X := setRow (X) 15 (X.1 15)) (r := 16) rfl)).trans (sr_same (X := X) (r := 15) rfl))).symm hW
  obtain ⟨km, hkm, em, hmm⟩ := hm.2.2.1
  obtain ⟨ki, hki, ei, hii⟩ := hm.2.2.2.1
  refine lv_iload_n hx hb dX8_pours_0 rfl (lv_at hl 1 rfl) ?_
  refine g_calli (va_runS (As := [.int la]) (rest := []) C.1 (cX8_isThree_ok l G (setRow (setRow (setRow X 15 (X.1 15)) 16 (X.1 16)) 20 (X.1 20)) la) (va_cwS 1 C.1.2.2.2.2 (gS qw_1565 qw_1566 qw_81 qw_1567) rfl rfl rfl (by decide +kernel) ⟨Nat.le_of_ble_eq_true rfl, Nat.le_of_ble_eq_true rfl⟩) (g_pre C hW hS [.int la]) rfl rfl hl.1 rfl (lv_room (Nat.le_of_ble_eq_true rfl)) dX8_pours_1 ⟨Nat.zero_le _, Nat.zero_le _⟩) hS (fun r_2 Y_3 H_4 locs_5 hW_6 hS_7 h_1 => ?_)
  obtain ⟨h_1, hy_8⟩ := h_1
  replace hy_8 := hy_8.symm
  subst hy_8
  replace h_1 : r_2 = oM_isThree la := h_1
  subst h_1
  refine lv_if_eq (tgt := 15) hx hb dX8_pours_4 (by decide) (fun b_9 => ?_) (fun b_9 => ?_)
  · refine lv_aload_n hx hb dX8_pours_15 rfl (lv_at hl 0 rfl) ?_
    refine lv_iconst (v := 1) hx hb dX8_pours_16 (by decide) ?_
    refine g_calli (va_runV (As := [.int 1]) (rest := []) C.1 (cX8_fail_ok l G (setRow (setRow (setRow X 15 (X.1 15)) 16 (X.1 16)) 20 (X.1 20)) 1) (cwV 1 C.1.2.2.2.2 (gV qw_1571 qw_1573 qw_31 qw_81 qw_1574) rfl rfl rfl (by decide +kernel) ⟨Nat.le_of_ble_eq_true rfl, Nat.le_of_ble_eq_true rfl⟩) (g_rModel C hW_6 hS_7 [.int 1]) rfl rfl hl.1 rfl (lv_room (Nat.le_of_ble_eq_true rfl)) dX8_pours_17 ⟨Nat.zero_le _, Nat.zero_le _⟩) hS_7 (fun r_11 Y_12 H_13 locs_14 hW_15 hS_16 h_10 => ?_)
    obtain ⟨h_17, h_10⟩ := h_10
    replace h_17 : r_11 = (oM_fail (X.1 15) 1).1 := h_17
    subst h_17
    replace h_10 : Y_12 = setRow (setRow (setRow (setRow X 15 (X.1 15)) 16 (X.1 16)) 20 (X.1 20)) 15 ((oM_fail (X.1 15) 1).2) := h_10
    obtain ⟨w_18, ew_18⟩ : ∃ Z9, Z9 = (oM_fail (X.1 15) 1).2 := ⟨_, rfl⟩
    have qqw_18 : Y_12 = setRow (setRow (setRow (setRow X 15 (X.1 15)) 16 (X.1 16)) 20 (X.1 20)) 15 w_18 := by rw [h_10, ew_18]
    have hW_19 : Wd G (setRow (setRow (setRow X 15 w_18) 16 (X.1 16)) 20 (X.1 20)) H_13 := Wd.cast ((qqw_18).trans (congrArg (fun Z9 => Z9) (sr_in (by decide) (sr_in (by decide) sr_out)))) hW_15
    exact g_iret C hr hlk hW_19 hS_16 dX8_pours_20 (by subst ew_18; exact ⟨(by first | rfl | (simp only [oM_pours, eq_true b_9, if_true, if_false, em, ei, clf (show km < 2 ^ 31 by omega), clf (show ki < 2 ^ 31 by omega)]; first | done | rfl)), (by first | rfl | (simp only [oM_pours, eq_true b_9, if_true, if_false, em, ei, clf (show km < 2 ^ 31 by omega), clf (show ki < 2 ^ 31 by omega)]; first | done | rfl))⟩)
  · obtain ⟨f_20, hf_20, rfl⟩ := three_in b_9
    refine lv_aload_n hx hb dX8_pours_7 rfl (lv_at hl 0 rfl) ?_
    refine lv_iload_n hx hb dX8_pours_8 rfl (lv_at hl 2 rfl) ?_
    refine g_calli (va_runV (As := [.int mo]) (rest := []) C.1 (cX8_isMould_ok l G (setRow (setRow (setRow X 15 (X.1 15)) 16 (X.1 16)) 20 (X.1 20)) mo) (cwV 1 C.1.2.2.2.2 (gV qw_1666 qw_1668 qw_48 qw_81 qw_1669) rfl rfl rfl (by decide +kernel) ⟨Nat.le_of_ble_eq_true rfl, Nat.le_of_ble_eq_true rfl⟩) (g_rModel C hW_6 hS_7 [.int mo]) rfl rfl hl.1 rfl (lv_room (Nat.le_of_ble_eq_true rfl)) dX8_pours_9 ⟨Nat.zero_le _, Nat.zero_le _⟩) hS_7 (fun r_22 Y_23 H_24 locs_25 hW_26 hS_27 h_21 => ?_)
    obtain ⟨h_21, hy_28⟩ := h_21
    replace hy_28 := hy_28.symm
    subst hy_28
    replace h_21 : r_22 = oM_isMould (X.1 16) mo := h_21
    subst h_21
    refine lv_if_ne (tgt := 21) hx hb dX8_pours_12 (by decide) (fun b_29 => ?_) (fun b_29 => ?_)
    · obtain ⟨f_30, hf_30, rfl⟩ := count_in (by omega) em b_29
      refine lv_iload_n hx hb dX8_pours_21 rfl (lv_at hl 2 rfl) ?_
      refine g_calli (va_runS (As := [.int (nI f_30)]) (rest := []) C.1 (cX8_mould_ok l G (setRow (setRow (setRow X 15 (X.1 15)) 16 (X.1 16)) 20 (X.1 20)) (nI f_30)) (va_cwS 1 C.1.2.2.2.2 (gS qw_1655 qw_1656 qw_81 qw_1657) rfl rfl rfl (by decide +kernel) ⟨Nat.le_of_ble_eq_true rfl, Nat.le_of_ble_eq_true rfl⟩) (g_pre C hW_26 hS_27 [.int (nI f_30)]) rfl rfl hl.1 rfl (lv_room (Nat.le_of_ble_eq_true rfl)) dX8_pours_22 ⟨Nat.zero_le _, Nat.zero_le _⟩) hS_27 (fun r_32 Y_33 H_34 locs_35 hW_36 hS_37 h_31 => ?_)
      obtain ⟨h_31, hy_38⟩ := h_31
      replace hy_38 := hy_38.symm
      subst hy_38
      replace h_31 : r_32 = oM_mould (nI f_30) := h_31
      subst h_31
      refine g_top (y := nI (44 + 6 * f_30)) (at_mould f_30) ?_
      refine lv_istore_n (lv' := [(3, .int (nI (44 + 6 * f_30))), (0, .ref (ad G 723)), (1, .int (nI f_20)), (2, .int (nI f_30))]) hx hb dX8_pours_25 rfl hl (by decide) rfl (fun ls_39 hl_40 => ?_)
      refine lv_aload_n hx hb dX8_pours_26 rfl (lv_at hl_40 1 rfl) ?_
      refine gM_v C hW_36 (hwc hwX8) (mc qw_1481) dX8_pours_27 ?_
      refine lv_iload_n hx hb dX8_pours_30 rfl (lv_at hl_40 0 rfl) ?_
      refine lv_iconst (v := 4) hx hb dX8_pours_31 (by decide) ?_
      refine lv_iadd hx hb dX8_pours_32 ?_
      refine g_top (y := nI ((44 + 6 * f_30) + 4)) (nI_add (44 + 6 * f_30) 4) ?_
      refine gm_vld C hW_36 ((44 + 6 * f_30) + 4) (nI_clamp (by omega)) (vp_in_nI (show (44 + 6 * f_30) + 4 < 128 by omega) (by decide)) dX8_pours_33 ?_
      refine g_top (y := X.1 16 ((44 + 6 * f_30) + 4)) (congrFun (rd_in (by decide) rd_out) _) ?_
      refine lv_topi (fun v_41 ev_41 => ?_)
      refine lv_istore (lv' := [(4, .int v_41), (3, .int (nI (44 + 6 * f_30))), (0, .ref (ad G 723)), (1, .int (nI f_20)), (2, .int (nI f_30))]) hx hb dX8_pours_34 hl_40 (by decide) rfl (fun ls_42 hl_43 => ?_)
      refine lv_aload_n hx hb dX8_pours_36 rfl (lv_at hl_43 2 rfl) ?_
      refine gM_v C hW_36 (hwc hwX8) (mc qw_1481) dX8_pours_37 ?_
      refine lv_iload_n hx hb dX8_pours_40 rfl (lv_at hl_43 1 rfl) ?_
      refine lv_iconst (v := 5) hx hb dX8_pours_41 (by decide) ?_
      refine lv_iadd hx hb dX8_pours_42 ?_
      refine g_top (y := nI ((44 + 6 * f_30) + 5)) (nI_add (44 + 6 * f_30) 5) ?_
      refine gm_vld C hW_36 ((44 + 6 * f_30) + 5) (nI_clamp (by omega)) (vp_in_nI (show (44 + 6 * f_30) + 5 < 128 by omega) (by decide)) dX8_pours_43 ?_
      refine g_top (y := X.1 16 ((44 + 6 * f_30) + 5)) (congrFun (rd_in (by decide) rd_out) _) ?_
      refine lv_iconst (v := 1) hx hb dX8_pours_44 (by decide) ?_
      refine lv_icmp_ne (tgt := 54) hx hb dX8_pours_45 (by decide) (fun b_44 => ?_) (fun b_44 => ?_)
      · refine lv_aload_n hx hb dX8_pours_54 rfl (lv_at hl_43 2 rfl) ?_
        refine lv_iload_n hx hb dX8_pours_55 rfl (lv_at hl_43 3 rfl) ?_
        refine g_calli (va_runS (As := [.int (nI f_20)]) (rest := [.ref (ad G 723)]) C.1 (cX8_ladle_ok l G (setRow (setRow (setRow X 15 (X.1 15)) 16 (X.1 16)) 20 (X.1 20)) (nI f_20)) (va_cwS 1 C.1.2.2.2.2 (gS qw_1473 qw_1474 qw_81 qw_1475) rfl rfl rfl (by decide +kernel) ⟨Nat.le_of_ble_eq_true rfl, Nat.le_of_ble_eq_true rfl⟩) (g_pre C hW_36 hS_37 [.int (nI f_20)]) rfl rfl hl_43.1 rfl (lv_room (Nat.le_of_ble_eq_true rfl)) dX8_pours_56 ⟨Nat.zero_le _, Nat.zero_le _⟩) hS_37 (fun r_46 Y_47 H_48 locs_49 hW_50 hS_51 h_45 => ?_)
        obtain ⟨h_45, hy_52⟩ := h_45
        replace hy_52 := hy_52.symm
        subst hy_52
        replace h_45 : r_46 = oM_ladle (nI f_20) := h_45
        subst h_45
        refine g_top (y := nI (27 + 5 * f_20)) (at_ladle f_20) ?_
        refine g_calli (va_runV (As := [.int (nI (27 + 5 * f_20))]) (rest := []) C.1 (cX8_mass_ok l G (setRow (setRow (setRow X 15 (X.1 15)) 16 (X.1 16)) 20 (X.1 20)) (27 + 5 * f_20) (show 27 + 5 * f_20 + 4 ≤ 128 by omega)) (cwV 1 C.1.2.2.2.2 (gV qw_1575 qw_1577 qw_32 qw_81 qw_1578) rfl rfl rfl (by decide +kernel) ⟨Nat.le_of_ble_eq_true rfl, Nat.le_of_ble_eq_true rfl⟩) (g_rModel C hW_50 hS_51 [.int (nI (27 + 5 * f_20))]) rfl rfl hl_43.1 rfl (lv_room (Nat.le_of_ble_eq_true rfl)) dX8_pours_59 ⟨Nat.zero_le _, Nat.zero_le _⟩) hS_51 (fun r_54 Y_55 H_56 locs_57 hW_58 hS_59 h_53 => ?_)
        obtain ⟨h_53, hy_60⟩ := h_53
        replace hy_60 := hy_60.symm
        subst hy_60
        replace h_53 : r_54 = oM_mass (X.1 16) (27 + 5 * f_20) := h_53
        subst h_53
        refine lv_iload hx hb dX8_pours_62 (lv_at hl_43 0 rfl) ?_
        refine lv_icmp_ge (tgt := 73) hx hb dX8_pours_64 (by decide) (fun b_61 => ?_) (fun b_61 => ?_)
        · refine lv_aload_n hx hb dX8_pours_73 rfl (lv_at hl_43 2 rfl) ?_
          refine lv_iload_n hx hb dX8_pours_74 rfl (lv_at hl_43 3 rfl) ?_
          refine g_calli (va_runS (As := [.int (nI f_20)]) (rest := [.ref (ad G 723)]) C.1 (cX8_ladle_ok l G (setRow (setRow (setRow X 15 (X.1 15)) 16 (X.1 16)) 20 (X.1 20)) (nI f_20)) (va_cwS 1 C.1.2.2.2.2 (gS qw_1473 qw_1474 qw_81 qw_1475) rfl rfl rfl (by decide +kernel) ⟨Nat.le_of_ble_eq_true rfl, Nat.le_of_ble_eq_true rfl⟩) (g_pre C hW_58 hS_59 [.int (nI f_20)]) rfl rfl hl_43.1 rfl (lv_room (Nat.le_of_ble_eq_true rfl)) dX8_pours_75 ⟨Nat.zero_le _, Nat.zero_le _⟩) hS_59 (fun r_63 Y_64 H_65 locs_66 hW_67 hS_68 h_62 => ?_)
          obtain ⟨h_62, hy_69⟩ := h_62
          replace hy_69 := hy_69.symm
          subst hy_69
          replace h_62 : r_63 = oM_ladle (nI f_20) := h_62
          subst h_62
          refine g_top (y := nI (27 + 5 * f_20)) (at_ladle f_20) ?_
          refine g_calli (va_runV (As := [.int (nI (27 + 5 * f_20))]) (rest := []) C.1 (cX8_isFluid_ok l G (setRow (setRow (setRow X 15 (X.1 15)) 16 (X.1 16)) 20 (X.1 20)) (27 + 5 * f_20) (show 27 + 5 * f_20 + 5 ≤ 128 by omega)) (cwV 1 C.1.2.2.2.2 (gV qw_1611 qw_1613 qw_39 qw_81 qw_1614) rfl rfl rfl (by decide +kernel) ⟨Nat.le_of_ble_eq_true rfl, Nat.le_of_ble_eq_true rfl⟩) (g_rModel C hW_67 hS_68 [.int (nI (27 + 5 * f_20))]) rfl rfl hl_43.1 rfl (lv_room (Nat.le_of_ble_eq_true rfl)) dX8_pours_78 ⟨Nat.zero_le _, Nat.zero_le _⟩) hS_68 (fun r_71 Y_72 H_73 locs_74 hW_75 hS_76 h_70 => ?_)
          obtain ⟨h_70, hy_77⟩ := h_70
          replace hy_77 := hy_77.symm
          subst hy_77
          replace h_70 : r_71 = oM_isFluid (X.1 16) (X.1 21) (27 + 5 * f_20) := h_70
          subst h_70
          refine lv_if_ne (tgt := 90) hx hb dX8_pours_81 (by decide) (fun b_78 => ?_) (fun b_78 => ?_)
          · refine lv_aload_n hx hb dX8_pours_90 rfl (lv_at hl_43 2 rfl) ?_
            refine lv_iload_n hx hb dX8_pours_91 rfl (lv_at hl_43 3 rfl) ?_
            refine g_calli (va_runS (As := [.int (nI f_20)]) (rest := [.ref (ad G 723)]) C.1 (cX8_ladle_ok l G (setRow (setRow (setRow X 15 (X.1 15)) 16 (X.1 16)) 20 (X.1 20)) (nI f_20)) (va_cwS 1 C.1.2.2.2.2 (gS qw_1473 qw_1474 qw_81 qw_1475) rfl rfl rfl (by decide +kernel) ⟨Nat.le_of_ble_eq_true rfl, Nat.le_of_ble_eq_true rfl⟩) (g_pre C hW_75 hS_76 [.int (nI f_20)]) rfl rfl hl_43.1 rfl (lv_room (Nat.le_of_ble_eq_true rfl)) dX8_pours_92 ⟨Nat.zero_le _, Nat.zero_le _⟩) hS_76 (fun r_80 Y_81 H_82 locs_83 hW_84 hS_85 h_79 => ?_)
            obtain ⟨h_79, hy_86⟩ := h_79
            replace hy_86 := hy_86.symm
            subst hy_86
            replace h_79 : r_80 = oM_ladle (nI f_20) := h_79
            subst h_79
            refine g_top (y := nI (27 + 5 * f_20)) (at_ladle f_20) ?_
            refine lv_iload hx hb dX8_pours_95 (lv_at hl_43 0 rfl) ?_
            refine g_callv (va_runV (As := [.int (nI (27 + 5 * f_20)), .int v_41]) (rest := []) C.1 (cX8_takes_ok l G (setRow (setRow (setRow X 15 (X.1 15)) 16 (X.1 16)) 20 (X.1 20)) (27 + 5 * f_20) v_41 (show 27 + 5 * f_20 + 4 ≤ 128 by omega) (by subst ev_41; exact nz_pour (hm.2.1 f_20 (by omega)) (by rw [show 44 + 6 * f_30 + 4 = 48 + 6 * f_30 by omega]; exact (hmm f_30 (by omega)).1) (by decide) b_61)) (cwV 2 C.1.2.2.2.2 (gV qw_1627 qw_1629 qw_42 qw_81 qw_1630) rfl rfl rfl (by decide +kernel) ⟨Nat.le_of_ble_eq_true rfl, Nat.le_of_ble_eq_true rfl⟩) (g_rModel C hW_84 hS_85 [.int (nI (27 + 5 * f_20)), .int v_41]) rfl rfl hl_43.1 rfl (lv_room (Nat.le_of_ble_eq_true rfl)) dX8_pours_97 ⟨Nat.zero_le _, Nat.zero_le _⟩) hS_85 (fun Y_88 H_89 locs_90 hW_91 hS_92 h_87 => ?_)
            replace h_87 : Y_88 = setRow (setRow (setRow (setRow (setRow X 15 (X.1 15)) 16 (X.1 16)) 20 (X.1 20)) 16 ((oM_takes (X.1 16) (X.1 20) (27 + 5 * f_20) v_41).1)) 20 ((oM_takes (X.1 16) (X.1 20) (27 + 5 * f_20) v_41).2) := h_87
            obtain ⟨w_93, ew_93⟩ : ∃ Z9, Z9 = (oM_takes (X.1 16) (X.1 20) (27 + 5 * f_20) v_41).1 := ⟨_, rfl⟩
            obtain ⟨w_94, ew_94⟩ : ∃ Z9, Z9 = (oM_takes (X.1 16) (X.1 20) (27 + 5 * f_20) v_41).2 := ⟨_, rfl⟩
            have qqw_93 : Y_88 = setRow (setRow (setRow (setRow (setRow X 15 (X.1 15)) 16 (X.1 16)) 20 (X.1 20)) 16 w_93) 20 w_94 := by rw [h_87, ew_93, ew_94]
            have hW_95 : Wd G (setRow (setRow (setRow X 15 (X.1 15)) 16 w_93) 20 w_94) H_89 := Wd.cast (((qqw_93).trans (congrArg (fun Z9 => setRow (Z9) 20 w_94) (sr_in (by decide) sr_out))).trans (congrArg (fun Z9 => Z9) sr_out)) hW_91
            refine lv_aload_n hx hb dX8_pours_100 rfl (lv_at hl_43 2 rfl) ?_
            refine lv_iload_n hx hb dX8_pours_101 rfl (lv_at hl_43 1 rfl) ?_
            refine g_callv (va_runV (As := [.int (nI (44 + 6 * f_30))]) (rest := []) C.1 (cX8_adds_ok l G (setRow (setRow (setRow X 15 (X.1 15)) 16 w_93) 20 w_94) (44 + 6 * f_30) (show 44 + 6 * f_30 + 4 ≤ 128 by omega)) (cwV 1 C.1.2.2.2.2 (gV qw_1587 qw_1589 qw_35 qw_81 qw_1590) rfl rfl rfl (by decide +kernel) ⟨Nat.le_of_ble_eq_true rfl, Nat.le_of_ble_eq_true rfl⟩) (g_rModel C hW_95 hS_92 [.int (nI (44 + 6 * f_30))]) rfl rfl hl_43.1 rfl (lv_room (Nat.le_of_ble_eq_true rfl)) dX8_pours_102 ⟨Nat.zero_le _, Nat.zero_le _⟩) hS_92 (fun Y_97 H_98 locs_99 hW_100 hS_101 h_96 => ?_)
            replace h_96 : Y_97 = setRow (setRow (setRow (setRow X 15 (X.1 15)) 16 w_93) 20 w_94) 16 (oM_adds w_93 w_94 (44 + 6 * f_30)) := h_96
            obtain ⟨w_102, ew_102⟩ : ∃ Z9, Z9 = oM_adds w_93 w_94 (44 + 6 * f_30) := ⟨_, rfl⟩
            have qqw_102 : Y_97 = setRow (setRow (setRow (setRow X 15 (X.1 15)) 16 w_93) 20 w_94) 16 w_102 := by rw [h_96, ew_102]
            have hW_103 : Wd G (setRow (setRow (setRow X 15 (X.1 15)) 16 w_102) 20 w_94) H_98 := Wd.cast ((qqw_102).trans (congrArg (fun Z9 => Z9) (sr_in (by decide) sr_out))) hW_100
            refine lv_aload_n hx hb dX8_pours_105 rfl (lv_at hl_43 2 rfl) ?_
            refine gM_v C hW_103 (hwc hwX8) (mc qw_1481) dX8_pours_106 ?_
            refine lv_iload_n hx hb dX8_pours_109 rfl (lv_at hl_43 1 rfl) ?_
            refine lv_iconst (v := 5) hx hb dX8_pours_110 (by decide) ?_
            refine lv_iadd hx hb dX8_pours_111 ?_
            refine g_top (y := nI ((44 + 6 * f_30) + 5)) (nI_add (44 + 6 * f_30) 5) ?_
            refine lv_iconst (v := 1) hx hb dX8_pours_112 (by decide) ?_
            refine gm_vst C hW_103 hS_101 ((44 + 6 * f_30) + 5) (nI_clamp (by omega)) (vp_in_nI (show (44 + 6 * f_30) + 5 < 128 by omega) (by decide)) dX8_pours_113 (fun H_104 locs_105 hW_106 hS_107 => ?_)
            obtain ⟨w_108, ew_108⟩ : ∃ Z9, Z9 = upd w_102 ((44 + 6 * f_30) + 5) 1 := ⟨_, rfl⟩
            have hW_109 : Wd G (setRow (setRow (setRow X 15 (X.1 15)) 16 w_108) 20 w_94) H_104 := Wd.cast (by rw [ew_108]; exact (st_in (by decide) st_out)) hW_106
            refine lv_aload_n hx hb dX8_pours_114 rfl (lv_at hl_43 2 rfl) ?_
            refine lv_iload_n hx hb dX8_pours_115 rfl (lv_at hl_43 3 rfl) ?_
            refine g_callv (va_runV (As := [.int (nI f_20)]) (rest := []) C.1 (cX8_cools_ok l G (setRow (setRow (setRow X 15 (X.1 15)) 16 w_108) 20 w_94) f_20 (show f_20 < 3 by omega)) (cwV 1 C.1.2.2.2.2 (gV qw_1643 qw_1645 qw_45 qw_81 qw_1646) rfl rfl rfl (by decide +kernel) ⟨Nat.le_of_ble_eq_true rfl, Nat.le_of_ble_eq_true rfl⟩) (g_rModel C hW_109 hS_107 [.int (nI f_20)]) rfl rfl hl_43.1 rfl (lv_room (Nat.le_of_ble_eq_true rfl)) dX8_pours_116 ⟨Nat.zero_le _, Nat.zero_le _⟩) hS_107 (fun Y_111 H_112 locs_113 hW_114 hS_115 h_110 => ?_)
            replace h_110 : Y_111 = setRow (setRow (setRow (setRow X 15 (X.1 15)) 16 w_108) 20 w_94) 16 (oM_cools w_108 f_20) := h_110
            obtain ⟨w_116, ew_116⟩ : ∃ Z9, Z9 = oM_cools w_108 f_20 := ⟨_, rfl⟩
            have qqw_116 : Y_111 = setRow (setRow (setRow (setRow X 15 (X.1 15)) 16 w_108) 20 w_94) 16 w_116 := by rw [h_110, ew_116]
            have hW_117 : Wd G (setRow (setRow (setRow X 15 (X.1 15)) 16 w_116) 20 w_94) H_112 := Wd.cast ((qqw_116).trans (congrArg (fun Z9 => Z9) (sr_in (by decide) sr_out))) hW_114
            refine lv_aload_n hx hb dX8_pours_119 rfl (lv_at hl_43 2 rfl) ?_
            refine lv_iload_n hx hb dX8_pours_120 rfl (lv_at hl_43 3 rfl) ?_
            refine g_calli (va_runS (As := [.int (nI f_20)]) (rest := [.ref (ad G 723)]) C.1 (cX8_ladle_ok l G (setRow (setRow (setRow X 15 (X.1 15)) 16 w_116) 20 w_94) (nI f_20)) (va_cwS 1 C.1.2.2.2.2 (gS qw_1473 qw_1474 qw_81 qw_1475) rfl rfl rfl (by decide +kernel) ⟨Nat.le_of_ble_eq_true rfl, Nat.le_of_ble_eq_true rfl⟩) (g_pre C hW_117 hS_115 [.int (nI f_20)]) rfl rfl hl_43.1 rfl (lv_room (Nat.le_of_ble_eq_true rfl)) dX8_pours_121 ⟨Nat.zero_le _, Nat.zero_le _⟩) hS_115 (fun r_119 Y_120 H_121 locs_122 hW_123 hS_124 h_118 => ?_)
            obtain ⟨h_118, hy_125⟩ := h_118
            replace hy_125 := hy_125.symm
            subst hy_125
            replace h_118 : r_119 = oM_ladle (nI f_20) := h_118
            subst h_118
            refine g_top (y := nI (27 + 5 * f_20)) (at_ladle f_20) ?_
            refine g_calli (va_runV (As := [.int (nI (27 + 5 * f_20))]) (rest := []) C.1 (cX8_mass_ok l G (setRow (setRow (setRow X 15 (X.1 15)) 16 w_116) 20 w_94) (27 + 5 * f_20) (show 27 + 5 * f_20 + 4 ≤ 128 by omega)) (cwV 1 C.1.2.2.2.2 (gV qw_1575 qw_1577 qw_32 qw_81 qw_1578) rfl rfl rfl (by decide +kernel) ⟨Nat.le_of_ble_eq_true rfl, Nat.le_of_ble_eq_true rfl⟩) (g_rModel C hW_123 hS_124 [.int (nI (27 + 5 * f_20))]) rfl rfl hl_43.1 rfl (lv_room (Nat.le_of_ble_eq_true rfl)) dX8_pours_124 ⟨Nat.zero_le _, Nat.zero_le _⟩) hS_124 (fun r_127 Y_128 H_129 locs_130 hW_131 hS_132 h_126 => ?_)
            obtain ⟨h_126, hy_133⟩ := h_126
            replace hy_133 := hy_133.symm
            subst hy_133
            replace h_126 : r_127 = oM_mass w_116 (27 + 5 * f_20) := h_126
            subst h_126
            exact g_iret C hr hlk hW_131 hS_132 dX8_pours_127 (by subst ew_116; subst ew_108; subst ew_102; subst ew_94; subst ew_93; subst ev_41; exact ⟨(by first | rfl | (simp only [oM_pours, clf (show f_20 < 2 ^ 31 by omega), clf (show f_30 < 2 ^ 31 by omega), b_9, b_29, b_44, b_61, b_78, if_true, if_false, em, ei, clf (show km < 2 ^ 31 by omega), clf (show ki < 2 ^ 31 by omega)]; first | done | rfl)), (by first | rfl | (simp only [oM_pours, clf (show f_20 < 2 ^ 31 by omega), clf (show f_30 < 2 ^ 31 by omega), b_9, b_29, b_44, b_61, b_78, if_true, if_false, em, ei, clf (show km < 2 ^ 31 by omega), clf (show ki < 2 ^ 31 by omega)]; first | done | rfl))⟩)
          · refine lv_aload_n hx hb dX8_pours_84 rfl (lv_at hl_43 2 rfl) ?_
            refine lv_iconst (v := 4) hx hb dX8_pours_85 (by decide) ?_
            refine g_calli (va_runV (As := [.int 4]) (rest := []) C.1 (cX8_fail_ok l G (setRow (setRow (setRow X 15 (X.1 15)) 16 (X.1 16)) 20 (X.1 20)) 4) (cwV 1 C.1.2.2.2.2 (gV qw_1571 qw_1573 qw_31 qw_81 qw_1574) rfl rfl rfl (by decide +kernel) ⟨Nat.le_of_ble_eq_true rfl, Nat.le_of_ble_eq_true rfl⟩) (g_rModel C hW_75 hS_76 [.int 4]) rfl rfl hl_43.1 rfl (lv_room (Nat.le_of_ble_eq_true rfl)) dX8_pours_86 ⟨Nat.zero_le _, Nat.zero_le _⟩) hS_76 (fun r_135 Y_136 H_137 locs_138 hW_139 hS_140 h_134 => ?_)
            obtain ⟨h_141, h_134⟩ := h_134
            replace h_141 : r_135 = (oM_fail (X.1 15) 4).1 := h_141
            subst h_141
            replace h_134 : Y_136 = setRow (setRow (setRow (setRow X 15 (X.1 15)) 16 (X.1 16)) 20 (X.1 20)) 15 ((oM_fail (X.1 15) 4).2) := h_134
            obtain ⟨w_142, ew_142⟩ : ∃ Z9, Z9 = (oM_fail (X.1 15) 4).2 := ⟨_, rfl⟩
            have qqw_142 : Y_136 = setRow (setRow (setRow (setRow X 15 (X.1 15)) 16 (X.1 16)) 20 (X.1 20)) 15 w_142 := by rw [h_134, ew_142]
            have hW_143 : Wd G (setRow (setRow (setRow X 15 w_142) 16 (X.1 16)) 20 (X.1 20)) H_137 := Wd.cast ((qqw_142).trans (congrArg (fun Z9 => Z9) (sr_in (by decide) (sr_in (by decide) sr_out)))) hW_139
            exact g_iret C hr hlk hW_143 hS_140 dX8_pours_89 (by subst ew_142; subst ev_41; exact ⟨(by first | rfl | (simp only [oM_pours, clf (show f_20 < 2 ^ 31 by omega), clf (show f_30 < 2 ^ 31 by omega), b_9, b_29, b_44, b_61, eq_true b_78, if_true, if_false, em, ei, clf (show km < 2 ^ 31 by omega), clf (show ki < 2 ^ 31 by omega)]; first | done | rfl)), (by first | rfl | (simp only [oM_pours, clf (show f_20 < 2 ^ 31 by omega), clf (show f_30 < 2 ^ 31 by omega), b_9, b_29, b_44, b_61, eq_true b_78, if_true, if_false, em, ei, clf (show km < 2 ^ 31 by omega), clf (show ki < 2 ^ 31 by omega)]; first | done | rfl))⟩)
        · refine lv_aload_n hx hb dX8_pours_67 rfl (lv_at hl_43 2 rfl) ?_
          refine lv_iconst (v := 3) hx hb dX8_pours_68 (by decide) ?_
          refine g_calli (va_runV (As := [.int 3]) (rest := []) C.1 (cX8_fail_ok l G (setRow (setRow (setRow X 15 (X.1 15)) 16 (X.1 16)) 20 (X.1 20)) 3) (cwV 1 C.1.2.2.2.2 (gV qw_1571 qw_1573 qw_31 qw_81 qw_1574) rfl rfl rfl (by decide +kernel) ⟨Nat.le_of_ble_eq_true rfl, Nat.le_of_ble_eq_true rfl⟩) (g_rModel C hW_58 hS_59 [.int 3]) rfl rfl hl_43.1 rfl (lv_room (Nat.le_of_ble_eq_true rfl)) dX8_pours_69 ⟨Nat.zero_le _, Nat.zero_le _⟩) hS_59 (fun r_145 Y_146 H_147 locs_148 hW_149 hS_150 h_144 => ?_)
          obtain ⟨h_151, h_144⟩ := h_144
          replace h_151 : r_145 = (oM_fail (X.1 15) 3).1 := h_151
          subst h_151
          replace h_144 : Y_146 = setRow (setRow (setRow (setRow X 15 (X.1 15)) 16 (X.1 16)) 20 (X.1 20)) 15 ((oM_fail (X.1 15) 3).2) := h_144
          obtain ⟨w_152, ew_152⟩ : ∃ Z9, Z9 = (oM_fail (X.1 15) 3).2 := ⟨_, rfl⟩
          have qqw_152 : Y_146 = setRow (setRow (setRow (setRow X 15 (X.1 15)) 16 (X.1 16)) 20 (X.1 20)) 15 w_152 := by rw [h_144, ew_152]
          have hW_153 : Wd G (setRow (setRow (setRow X 15 w_152) 16 (X.1 16)) 20 (X.1 20)) H_147 := Wd.cast ((qqw_152).trans (congrArg (fun Z9 => Z9) (sr_in (by decide) (sr_in (by decide) sr_out)))) hW_149
          exact g_iret C hr hlk hW_153 hS_150 dX8_pours_72 (by subst ew_152; subst ev_41; exact ⟨(by first | rfl | (simp only [oM_pours, clf (show f_20 < 2 ^ 31 by omega), clf (show f_30 < 2 ^ 31 by omega), b_9, b_29, b_44, b_61, if_true, if_false, em, ei, clf (show km < 2 ^ 31 by omega), clf (show ki < 2 ^ 31 by omega)]; first | done | rfl)), (by first | rfl | (simp only [oM_pours, clf (show f_20 < 2 ^ 31 by omega), clf (show f_30 < 2 ^ 31 by omega), b_9, b_29, b_44, b_61, if_true, if_false, em, ei, clf (show km < 2 ^ 31 by omega), clf (show ki < 2 ^ 31 by omega)]; first | done | rfl))⟩)
      · refine lv_aload_n hx hb dX8_pours_48 rfl (lv_at hl_43 2 rfl) ?_
        refine lv_iconst (v := 2) hx hb dX8_pours_49 (by decide) ?_
        refine g_calli (va_runV (As := [.int 2]) (rest := []) C.1 (cX8_fail_ok l G (setRow (setRow (setRow X 15 (X.1 15)) 16 (X.1 16)) 20 (X.1 20)) 2) (cwV 1 C.1.2.2.2.2 (gV qw_1571 qw_1573 qw_31 qw_81 qw_1574) rfl rfl rfl (by decide +kernel) ⟨Nat.le_of_ble_eq_true rfl, Nat.le_of_ble_eq_true rfl⟩) (g_rModel C hW_36 hS_37 [.int 2]) rfl rfl hl_43.1 rfl (lv_room (Nat.le_of_ble_eq_true rfl)) dX8_pours_50 ⟨Nat.zero_le _, Nat.zero_le _⟩) hS_37 (fun r_155 Y_156 H_157 locs_158 hW_159 hS_160 h_154 => ?_)
        obtain ⟨h_161, h_154⟩ := h_154
        replace h_161 : r_155 = (oM_fail (X.1 15) 2).1 := h_161
        subst h_161
        replace h_154 : Y_156 = setRow (setRow (setRow (setRow X 15 (X.1 15)) 16 (X.1 16)) 20 (X.1 20)) 15 ((oM_fail (X.1 15) 2).2) := h_154
        obtain ⟨w_162, ew_162⟩ : ∃ Z9, Z9 = (oM_fail (X.1 15) 2).2 := ⟨_, rfl⟩
        have qqw_162 : Y_156 = setRow (setRow (setRow (setRow X 15 (X.1 15)) 16 (X.1 16)) 20 (X.1 20)) 15 w_162 := by rw [h_154, ew_162]
        have hW_163 : Wd G (setRow (setRow (setRow X 15 w_162) 16 (X.1 16)) 20 (X.1 20)) H_157 := Wd.cast ((qqw_162).trans (congrArg (fun Z9 => Z9) (sr_in (by decide) (sr_in (by decide) sr_out)))) hW_159
        exact g_iret C hr hlk hW_163 hS_160 dX8_pours_53 (by subst ew_162; subst ev_41; exact ⟨(by first | rfl | (simp only [oM_pours, clf (show f_20 < 2 ^ 31 by omega), clf (show f_30 < 2 ^ 31 by omega), b_9, b_29, eq_true b_44, if_true, if_false, em, ei, clf (show km < 2 ^ 31 by omega), clf (show ki < 2 ^ 31 by omega)]; first | done | rfl)), (by first | rfl | (simp only [oM_pours, clf (show f_20 < 2 ^ 31 by omega), clf (show f_30 < 2 ^ 31 by omega), b_9, b_29, eq_true b_44, if_true, if_false, em, ei, clf (show km < 2 ^ 31 by omega), clf (show ki < 2 ^ 31 by omega)]; first | done | rfl))⟩)
    · refine lv_aload_n hx hb dX8_pours_15 rfl (lv_at hl 0 rfl) ?_
      refine lv_iconst (v := 1) hx hb dX8_pours_16 (by decide) ?_
      refine g_calli (va_runV (As := [.int 1]) (rest := []) C.1 (cX8_fail_ok l G (setRow (setRow (setRow X 15 (X.1 15)) 16 (X.1 16)) 20 (X.1 20)) 1) (cwV 1 C.1.2.2.2.2 (gV qw_1571 qw_1573 qw_31 qw_81 qw_1574) rfl rfl rfl (by decide +kernel) ⟨Nat.le_of_ble_eq_true rfl, Nat.le_of_ble_eq_true rfl⟩) (g_rModel C hW_26 hS_27 [.int 1]) rfl rfl hl.1 rfl (lv_room (Nat.le_of_ble_eq_true rfl)) dX8_pours_17 ⟨Nat.zero_le _, Nat.zero_le _⟩) hS_27 (fun r_165 Y_166 H_167 locs_168 hW_169 hS_170 h_164 => ?_)
      obtain ⟨h_171, h_164⟩ := h_164
      replace h_171 : r_165 = (oM_fail (X.1 15) 1).1 := h_171
      subst h_171
      replace h_164 : Y_166 = setRow (setRow (setRow (setRow X 15 (X.1 15)) 16 (X.1 16)) 20 (X.1 20)) 15 ((oM_fail (X.1 15) 1).2) := h_164
      obtain ⟨w_172, ew_172⟩ : ∃ Z9, Z9 = (oM_fail (X.1 15) 1).2 := ⟨_, rfl⟩
      have qqw_172 : Y_166 = setRow (setRow (setRow (setRow X 15 (X.1 15)) 16 (X.1 16)) 20 (X.1 20)) 15 w_172 := by rw [h_164, ew_172]
      have hW_173 : Wd G (setRow (setRow (setRow X 15 w_172) 16 (X.1 16)) 20 (X.1 20)) H_167 := Wd.cast ((qqw_172).trans (congrArg (fun Z9 => Z9) (sr_in (by decide) (sr_in (by decide) sr_out)))) hW_169
      exact g_iret C hr hlk hW_173 hS_170 dX8_pours_20 (by subst ew_172; exact ⟨(by first | rfl | (simp only [oM_pours, clf (show f_20 < 2 ^ 31 by omega), b_9, eq_true b_29, if_true, if_false, em, ei, clf (show km < 2 ^ 31 by omega), clf (show ki < 2 ^ 31 by omega)]; first | done | rfl)), (by first | rfl | (simp only [oM_pours, clf (show f_20 < 2 ^ 31 by omega), b_9, eq_true b_29, if_true, if_false, em, ei, clf (show km < 2 ^ 31 by omega), clf (show ki < 2 ^ 31 by omega)]; first | done | rfl))⟩)

def oM_breaks (w15 : Nat → Int32) (w16 : Nat → Int32) (mo : Int32) : Int32 × ((Nat → Int32) × (Nat → Int32)) := if oM_isMould (w16) mo = 0 then ((oM_fail (w15) 1).1, ((oM_fail (w15) 1).2), w16) else (if w16 ((44 + 6 * mo.toNatClampNeg) + 5) = 0 then ((oM_fail (w15) 2).1, ((oM_fail (w15) 2).2), w16) else (if w16 43 = 12 then ((oM_fail (w15) 3).1, ((oM_fail (w15) 3).2), w16) else (w16 43, w15, (upd (upd (upd (upd (upd (upd (upd (upd (upd (upd (w16) (80 + 4 * ((w16 43).toNatClampNeg)) (w16 (44 + 6 * mo.toNatClampNeg))) (44 + 6 * mo.toNatClampNeg) 0) ((80 + 4 * ((w16 43).toNatClampNeg)) + 1) ((upd (upd (w16) (80 + 4 * ((w16 43).toNatClampNeg)) (w16 (44 + 6 * mo.toNatClampNeg))) (44 + 6 * mo.toNatClampNeg) 0) ((44 + 6 * mo.toNatClampNeg) + 1))) ((44 + 6 * mo.toNatClampNeg) + 1) 0) ((80 + 4 * ((w16 43).toNatClampNeg)) + 2) ((upd (upd (upd (upd (w16) (80 + 4 * ((w16 43).toNatClampNeg)) (w16 (44 + 6 * mo.toNatClampNeg))) (44 + 6 * mo.toNatClampNeg) 0) ((80 + 4 * ((w16 43).toNatClampNeg)) + 1) ((upd (upd (w16) (80 + 4 * ((w16 43).toNatClampNeg)) (w16 (44 + 6 * mo.toNatClampNeg))) (44 + 6 * mo.toNatClampNeg) 0) ((44 + 6 * mo.toNatClampNeg) + 1))) ((44 + 6 * mo.toNatClampNeg) + 1) 0) ((44 + 6 * mo.toNatClampNeg) + 2))) ((44 + 6 * mo.toNatClampNeg) + 2) 0) ((80 + 4 * ((w16 43).toNatClampNeg)) + 3) ((upd (upd (upd (upd (upd (upd (w16) (80 + 4 * ((w16 43).toNatClampNeg)) (w16 (44 + 6 * mo.toNatClampNeg))) (44 + 6 * mo.toNatClampNeg) 0) ((80 + 4 * ((w16 43).toNatClampNeg)) + 1) ((upd (upd (w16) (80 + 4 * ((w16 43).toNatClampNeg)) (w16 (44 + 6 * mo.toNatClampNeg))) (44 + 6 * mo.toNatClampNeg) 0) ((44 + 6 * mo.toNatClampNeg) + 1))) ((44 + 6 * mo.toNatClampNeg) + 1) 0) ((80 + 4 * ((w16 43).toNatClampNeg)) + 2) ((upd (upd (upd (upd (w16) (80 + 4 * ((w16 43).toNatClampNeg)) (w16 (44 + 6 * mo.toNatClampNeg))) (44 + 6 * mo.toNatClampNeg) 0) ((80 + 4 * ((w16 43).toNatClampNeg)) + 1) ((upd (upd (w16) (80 + 4 * ((w16 43).toNatClampNeg)) (w16 (44 + 6 * mo.toNatClampNeg))) (44 + 6 * mo.toNatClampNeg) 0) ((44 + 6 * mo.toNatClampNeg) + 1))) ((44 + 6 * mo.toNatClampNeg) + 1) 0) ((44 + 6 * mo.toNatClampNeg) + 2))) ((44 + 6 * mo.toNatClampNeg) + 2) 0) ((44 + 6 * mo.toNatClampNeg) + 3))) ((44 + 6 * mo.toNatClampNeg) + 3) 0) ((44 + 6 * mo.toNatClampNeg) + 5) 0) (43) (nI (((w16 43).toNatClampNeg) + 1))))))
set_option maxHeartbeats 4000000 in
set_option maxRecDepth 100000 in
theorem cX8_breaks_ok (l : Launch) (G : GT) (X : St) (mo : Int32) (hm : MInv (X.1 16)) : MetI l G yX8_breaks (wsG yX8_breaks cX8_breaks 5 (some .int)) (rmz 2 43) [.ref (ad G 723), .int mo] X (fun res Y => res = (oM_breaks (X.1 15) (X.1 16) mo).1 ∧ Y = setRow (setRow (X) 15 ((oM_breaks (X.1 15) (X.1 16) mo).2.1)) 16 ((oM_breaks (X.1 15) (X.1 16) mo).2.2)) := by
  refine g_met (cc := cX8_breaks) (maxL := 5) (ret := (some .int)) (by decide) rfl (Nat.le_of_ble_eq_true rfl) ?_
  intro p e s m below meth c ls C hr hlk hnm hW hl
  have hx := C.1.1
  have hb := C.1.2.1
  have hS : va_S (Ab G) s.heap s.heap [] := va_S.rf
  have hl : lv_has ls 5 [(0, .ref (ad G 723)), (1, .int mo)] := hl
  have hW : Wd G (setRow (setRow (X) 15 (X.1 15)) 16 (X.1 16)) s.heap := Wd.cast (((sr_same (X := setRow (X) 15 (X.1 15)) (r := 16) rfl).trans (sr_same (X := X) (r := 15) rfl))).symm hW
  obtain ⟨km, hkm, em, hmm⟩ := hm.2.2.1
  obtain ⟨ki, hki, ei, hii⟩ := hm.2.2.2.1
  refine lv_aload_n hx hb dX8_breaks_0 rfl (lv_at hl 0 rfl) ?_
  refine lv_iload_n hx hb dX8_breaks_1 rfl (lv_at hl 1 rfl) ?_
  refine g_calli (va_runV (As := [.int mo]) (rest := []) C.1 (cX8_isMould_ok l G (setRow (setRow X 15 (X.1 15)) 16 (X.1 16)) mo) (cwV 1 C.1.2.2.2.2 (gV qw_1666 qw_1668 qw_48 qw_81 qw_1669) rfl rfl rfl (by decide +kernel) ⟨Nat.le_of_ble_eq_true rfl, Nat.le_of_ble_eq_true rfl⟩) (g_rModel C hW hS [.int mo]) rfl rfl hl.1 rfl (lv_room (Nat.le_of_ble_eq_true rfl)) dX8_breaks_2 ⟨Nat.zero_le _, Nat.zero_le _⟩) hS (fun r_2 Y_3 H_4 locs_5 hW_6 hS_7 h_1 => ?_)
  obtain ⟨h_1, hy_8⟩ := h_1
  replace hy_8 := hy_8.symm
  subst hy_8
  replace h_1 : r_2 = oM_isMould (X.1 16) mo := h_1
  subst h_1
  refine lv_if_ne (tgt := 14) hx hb dX8_breaks_5 (by decide) (fun b_9 => ?_) (fun b_9 => ?_)
  · obtain ⟨f_10, hf_10, rfl⟩ := count_in (by omega) em b_9
    refine lv_iload_n hx hb dX8_breaks_14 rfl (lv_at hl 1 rfl) ?_
    refine g_calli (va_runS (As := [.int (nI f_10)]) (rest := []) C.1 (cX8_mould_ok l G (setRow (setRow X 15 (X.1 15)) 16 (X.1 16)) (nI f_10)) (va_cwS 1 C.1.2.2.2.2 (gS qw_1655 qw_1656 qw_81 qw_1657) rfl rfl rfl (by decide +kernel) ⟨Nat.le_of_ble_eq_true rfl, Nat.le_of_ble_eq_true rfl⟩) (g_pre C hW_6 hS_7 [.int (nI f_10)]) rfl rfl hl.1 rfl (lv_room (Nat.le_of_ble_eq_true rfl)) dX8_breaks_15 ⟨Nat.zero_le _, Nat.zero_le _⟩) hS_7 (fun r_12 Y_13 H_14 locs_15 hW_16 hS_17 h_11 => ?_)
    obtain ⟨h_11, hy_18⟩ := h_11
    replace hy_18 := hy_18.symm
    subst hy_18
    replace h_11 : r_12 = oM_mould (nI f_10) := h_11
    subst h_11
    refine g_top (y := nI (44 + 6 * f_10)) (at_mould f_10) ?_
    refine lv_istore_n (lv' := [(2, .int (nI (44 + 6 * f_10))), (0, .ref (ad G 723)), (1, .int (nI f_10))]) hx hb dX8_breaks_18 rfl hl (by decide) rfl (fun ls_19 hl_20 => ?_)
    refine lv_aload_n hx hb dX8_breaks_19 rfl (lv_at hl_20 1 rfl) ?_
    refine gM_v C hW_16 (hwc hwX8) (mc qw_1481) dX8_breaks_20 ?_
    refine lv_bipush (v := 43) hx hb dX8_breaks_23 (by decide) ?_
    refine gm_vld C hW_16 43 (by decide) (vlit (by decide)) dX8_breaks_25 ?_
    refine g_top (y := X.1 16 (43)) (congrFun rd_out _) ?_
    refine g_top (y := nI ki) ei ?_
    refine lv_istore_n (lv' := [(3, .int (nI ki)), (2, .int (nI (44 + 6 * f_10))), (0, .ref (ad G 723)), (1, .int (nI f_10))]) hx hb dX8_breaks_26 rfl hl_20 (by decide) rfl (fun ls_21 hl_22 => ?_)
    refine lv_aload_n hx hb dX8_breaks_27 rfl (lv_at hl_22 2 rfl) ?_
    refine gM_v C hW_16 (hwc hwX8) (mc qw_1481) dX8_breaks_28 ?_
    refine lv_iload_n hx hb dX8_breaks_31 rfl (lv_at hl_22 1 rfl) ?_
    refine lv_iconst (v := 5) hx hb dX8_breaks_32 (by decide) ?_
    refine lv_iadd hx hb dX8_breaks_33 ?_
    refine g_top (y := nI ((44 + 6 * f_10) + 5)) (nI_add (44 + 6 * f_10) 5) ?_
    refine gm_vld C hW_16 ((44 + 6 * f_10) + 5) (nI_clamp (by omega)) (vp_in_nI (show (44 + 6 * f_10) + 5 < 128 by omega) (by decide)) dX8_breaks_34 ?_
    refine g_top (y := X.1 16 ((44 + 6 * f_10) + 5)) (congrFun rd_out _) ?_
    refine lv_if_ne (tgt := 44) hx hb dX8_breaks_35 (by decide) (fun b_23 => ?_) (fun b_23 => ?_)
    · refine lv_iload_n hx hb dX8_breaks_44 rfl (lv_at hl_22 0 rfl) ?_
      refine lv_bipush (v := 12) hx hb dX8_breaks_45 (by decide) ?_
      refine lv_icmp_ne (tgt := 56) hx hb dX8_breaks_47 (by decide) (fun b_24 => ?_) (fun b_24 => ?_)
      · have hki12 : ki < 12 := Nat.lt_of_le_of_ne hki (fun q => b_24 (by rw [q]; rfl))
        refine lv_iconst (v := 0) hx hb dX8_breaks_56 (by decide) ?_
        refine lv_istore (lv' := [(4, .int 0), (3, .int (nI ki)), (2, .int (nI (44 + 6 * f_10))), (0, .ref (ad G 723)), (1, .int (nI f_10))]) hx hb dX8_breaks_57 hl_22 (by decide) rfl (fun ls_25 hl_26 => ?_)
        refine lv_iload hx hb dX8_breaks_59 (lv_at hl_26 0 rfl) ?_
        refine lv_iconst (v := 4) hx hb dX8_breaks_61 (by decide) ?_
        refine lv_icmp_ge (tgt := 102) hx hb dX8_breaks_62 (by decide) (fun h9 => absurd h9 (by decide)) (fun _ => ?_)
        refine lv_aload_n hx hb dX8_breaks_65 rfl (lv_at hl_26 3 rfl) ?_
        refine gM_v C hW_16 (hwc hwX8) (mc qw_1481) dX8_breaks_66 ?_
        refine lv_iload_n hx hb dX8_breaks_69 rfl (lv_at hl_26 1 rfl) ?_
        refine g_calli (va_runS (As := [.int (nI ki)]) (rest := [.ref (ad G 724)]) C.1 (cX8_ingot_ok l G (setRow (setRow X 15 (X.1 15)) 16 (X.1 16)) (nI ki)) (va_cwS 1 C.1.2.2.2.2 (gS qw_1678 qw_1679 qw_81 qw_1680) rfl rfl rfl (by decide +kernel) ⟨Nat.le_of_ble_eq_true rfl, Nat.le_of_ble_eq_true rfl⟩) (g_pre C hW_16 hS_17 [.int (nI ki)]) rfl rfl hl_26.1 rfl (lv_room (Nat.le_of_ble_eq_true rfl)) dX8_breaks_70 ⟨Nat.zero_le _, Nat.zero_le _⟩) hS_17 (fun r_28 Y_29 H_30 locs_31 hW_32 hS_33 h_27 => ?_)
        obtain ⟨h_27, hy_34⟩ := h_27
        replace hy_34 := hy_34.symm
        subst hy_34
        replace h_27 : r_28 = oM_ingot (nI ki) := h_27
        subst h_27
        refine g_top (y := nI (80 + 4 * ki)) (at_ingot ki) ?_
        refine lv_iload hx hb dX8_breaks_73 (lv_at hl_26 0 rfl) ?_
        refine lv_iadd hx hb dX8_breaks_75 ?_
        refine g_top (y := (nI (80 + 4 * ki))) (Int32.add_zero _) ?_
        refine lv_aload_n hx hb dX8_breaks_76 rfl (lv_at hl_26 3 rfl) ?_
        refine gM_v C hW_32 (hwc hwX8) (mc qw_1481) dX8_breaks_77 ?_
        refine lv_iload_n hx hb dX8_breaks_80 rfl (lv_at hl_26 2 rfl) ?_
        refine lv_iload hx hb dX8_breaks_81 (lv_at hl_26 0 rfl) ?_
        refine lv_iadd hx hb dX8_breaks_83 ?_
        refine g_top (y := (nI (44 + 6 * f_10))) (Int32.add_zero _) ?_
        refine gm_vld C hW_32 (44 + 6 * f_10) (nI_clamp (by omega)) (vp_in_nI (show 44 + 6 * f_10 < 128 by omega) (by decide)) dX8_breaks_84 ?_
        refine g_top (y := X.1 16 (44 + 6 * f_10)) (congrFun rd_out _) ?_
        refine gm_vst C hW_32 hS_33 (80 + 4 * ki) (nI_clamp (by omega)) (vp_in_nI (show 80 + 4 * ki < 128 by omega) (by decide)) dX8_breaks_85 (fun H_35 locs_36 hW_37 hS_38 => ?_)
        obtain ⟨w_39, ew_39⟩ : ∃ Z9, Z9 = upd (X.1 16) (80 + 4 * ki) (X.1 16 (44 + 6 * f_10)) := ⟨_, rfl⟩
        have kn_40 : w_39 (42) = nI km := by rw [ew_39]; exact (pk_un (by omega)).trans em
        have kn_41 : w_39 (43) = nI ki := by rw [ew_39]; exact (pk_un (by omega)).trans ei
        have hW_42 : Wd G (setRow (setRow X 15 (X.1 15)) 16 w_39) H_35 := Wd.cast (by rw [ew_39]; exact st_out) hW_37
        refine lv_aload_n hx hb dX8_breaks_86 rfl (lv_at hl_26 3 rfl) ?_
        refine gM_v C hW_42 (hwc hwX8) (mc qw_1481) dX8_breaks_87 ?_
        refine lv_iload_n hx hb dX8_breaks_90 rfl (lv_at hl_26 2 rfl) ?_
        refine lv_iload hx hb dX8_breaks_91 (lv_at hl_26 0 rfl) ?_
        refine lv_iadd hx hb dX8_breaks_93 ?_
        refine g_top (y := (nI (44 + 6 * f_10))) (Int32.add_zero _) ?_
        refine lv_iconst (v := 0) hx hb dX8_breaks_94 (by decide) ?_
        refine gm_vst C hW_42 hS_38 (44 + 6 * f_10) (nI_clamp (by omega)) (vp_in_nI (show 44 + 6 * f_10 < 128 by omega) (by decide)) dX8_breaks_95 (fun H_43 locs_44 hW_45 hS_46 => ?_)
        obtain ⟨w_47, ew_47⟩ : ∃ Z9, Z9 = upd w_39 (44 + 6 * f_10) 0 := ⟨_, rfl⟩
        have kn_48 : w_47 (42) = nI km := by rw [ew_47]; exact (pk_un (by omega)).trans kn_40
        have kn_49 : w_47 (43) = nI ki := by rw [ew_47]; exact (pk_un (by omega)).trans kn_41
        have hW_50 : Wd G (setRow (setRow X 15 (X.1 15)) 16 w_47) H_43 := Wd.cast (by rw [ew_47]; exact st_out) hW_45
        refine lv_iinc (v := 1) (lv' := [(4, .int 1), (3, .int (nI ki)), (2, .int (nI (44 + 6 * f_10))), (0, .ref (ad G 723)), (1, .int (nI f_10))]) hx hb dX8_breaks_96 hl_26 (k := 0) rfl (by decide) (by decide) rfl (fun ls_51 hl_52 => ?_)
        refine lv_goto (tgt := 59) hx hb dX8_breaks_99 (by decide) ?_
        refine lv_iload hx hb dX8_breaks_59 (lv_at hl_52 0 rfl) ?_
        refine lv_iconst (v := 4) hx hb dX8_breaks_61 (by decide) ?_
        refine lv_icmp_ge (tgt := 102) hx hb dX8_breaks_62 (by decide) (fun h9 => absurd h9 (by decide)) (fun _ => ?_)
        refine lv_aload_n hx hb dX8_breaks_65 rfl (lv_at hl_52 3 rfl) ?_
        refine gM_v C hW_50 (hwc hwX8) (mc qw_1481) dX8_breaks_66 ?_
        refine lv_iload_n hx hb dX8_breaks_69 rfl (lv_at hl_52 1 rfl) ?_
        refine g_calli (va_runS (As := [.int (nI ki)]) (rest := [.ref (ad G 724)]) C.1 (cX8_ingot_ok l G (setRow (setRow X 15 (X.1 15)) 16 w_47) (nI ki)) (va_cwS 1 C.1.2.2.2.2 (gS qw_1678 qw_1679 qw_81 qw_1680) rfl rfl rfl (by decide +kernel) ⟨Nat.le_of_ble_eq_true rfl, Nat.le_of_ble_eq_true rfl⟩) (g_pre C hW_50 hS_46 [.int (nI ki)]) rfl rfl hl_52.1 rfl (lv_room (Nat.le_of_ble_eq_true rfl)) dX8_breaks_70 ⟨Nat.zero_le _, Nat.zero_le _⟩) hS_46 (fun r_54 Y_55 H_56 locs_57 hW_58 hS_59 h_53 => ?_)
        obtain ⟨h_53, hy_60⟩ := h_53
        replace hy_60 := hy_60.symm
        subst hy_60
        replace h_53 : r_54 = oM_ingot (nI ki) := h_53
        subst h_53
        refine g_top (y := nI (80 + 4 * ki)) (at_ingot ki) ?_
        refine lv_iload hx hb dX8_breaks_73 (lv_at hl_52 0 rfl) ?_
        refine lv_iadd hx hb dX8_breaks_75 ?_
        refine g_top (y := nI ((80 + 4 * ki) + 1)) (nI_add (80 + 4 * ki) 1) ?_
        refine lv_aload_n hx hb dX8_breaks_76 rfl (lv_at hl_52 3 rfl) ?_
        refine gM_v C hW_58 (hwc hwX8) (mc qw_1481) dX8_breaks_77 ?_
        refine lv_iload_n hx hb dX8_breaks_80 rfl (lv_at hl_52 2 rfl) ?_
        refine lv_iload hx hb dX8_breaks_81 (lv_at hl_52 0 rfl) ?_
        refine lv_iadd hx hb dX8_breaks_83 ?_
        refine g_top (y := nI ((44 + 6 * f_10) + 1)) (nI_add (44 + 6 * f_10) 1) ?_
        refine gm_vld C hW_58 ((44 + 6 * f_10) + 1) (nI_clamp (by omega)) (vp_in_nI (show (44 + 6 * f_10) + 1 < 128 by omega) (by decide)) dX8_breaks_84 ?_
        refine g_top (y := w_47 ((44 + 6 * f_10) + 1)) (congrFun rd_out _) ?_
        refine gm_vst C hW_58 hS_59 ((80 + 4 * ki) + 1) (nI_clamp (by omega)) (vp_in_nI (show (80 + 4 * ki) + 1 < 128 by omega) (by decide)) dX8_breaks_85 (fun H_61 locs_62 hW_63 hS_64 => ?_)
        obtain ⟨w_65, ew_65⟩ : ∃ Z9, Z9 = upd w_47 ((80 + 4 * ki) + 1) (w_47 ((44 + 6 * f_10) + 1)) := ⟨_, rfl⟩
        have kn_66 : w_65 (42) = nI km := by rw [ew_65]; exact (pk_un (by omega)).trans kn_48
        have kn_67 : w_65 (43) = nI ki := by rw [ew_65]; exact (pk_un (by omega)).trans kn_49
        have hW_68 : Wd G (setRow (setRow X 15 (X.1 15)) 16 w_65) H_61 := Wd.cast (by rw [ew_65]; exact st_out) hW_63
        refine lv_aload_n hx hb dX8_breaks_86 rfl (lv_at hl_52 3 rfl) ?_
        refine gM_v C hW_68 (hwc hwX8) (mc qw_1481) dX8_breaks_87 ?_
        refine lv_iload_n hx hb dX8_breaks_90 rfl (lv_at hl_52 2 rfl) ?_
        refine lv_iload hx hb dX8_breaks_91 (lv_at hl_52 0 rfl) ?_
        refine lv_iadd hx hb dX8_breaks_93 ?_
        refine g_top (y := nI ((44 + 6 * f_10) + 1)) (nI_add (44 + 6 * f_10) 1) ?_
        refine lv_iconst (v := 0) hx hb dX8_breaks_94 (by decide) ?_
        refine gm_vst C hW_68 hS_64 ((44 + 6 * f_10) + 1) (nI_clamp (by omega)) (vp_in_nI (show (44 + 6 * f_10) + 1 < 128 by omega) (by decide)) dX8_breaks_95 (fun H_69 locs_70 hW_71 hS_72 => ?_)
        obtain ⟨w_73, ew_73⟩ : ∃ Z9, Z9 = upd w_65 ((44 + 6 * f_10) + 1) 0 := ⟨_, rfl⟩
        have kn_74 : w_73 (42) = nI km := by rw [ew_73]; exact (pk_un (by omega)).trans kn_66
        have kn_75 : w_73 (43) = nI ki := by rw [ew_73]; exact (pk_un (by omega)).trans kn_67
        have hW_76 : Wd G (setRow (setRow X 15 (X.1 15)) 16 w_73) H_69 := Wd.cast (by rw [ew_73]; exact st_out) hW_71
        refine lv_iinc (v := 2) (lv' := [(4, .int 2), (3, .int (nI ki)), (2, .int (nI (44 + 6 * f_10))), (0, .ref (ad G 723)), (1, .int (nI f_10))]) hx hb dX8_breaks_96 hl_52 (k := 0) rfl (by decide) (by decide) rfl (fun ls_77 hl_78 => ?_)
        refine lv_goto (tgt := 59) hx hb dX8_breaks_99 (by decide) ?_
        refine lv_iload hx hb dX8_breaks_59 (lv_at hl_78 0 rfl) ?_
        refine lv_iconst (v := 4) hx hb dX8_breaks_61 (by decide) ?_
        refine lv_icmp_ge (tgt := 102) hx hb dX8_breaks_62 (by decide) (fun h9 => absurd h9 (by decide)) (fun _ => ?_)
        refine lv_aload_n hx hb dX8_breaks_65 rfl (lv_at hl_78 3 rfl) ?_
        refine gM_v C hW_76 (hwc hwX8) (mc qw_1481) dX8_breaks_66 ?_
        refine lv_iload_n hx hb dX8_breaks_69 rfl (lv_at hl_78 1 rfl) ?_
        refine g_calli (va_runS (As := [.int (nI ki)]) (rest := [.ref (ad G 724)]) C.1 (cX8_ingot_ok l G (setRow (setRow X 15 (X.1 15)) 16 w_73) (nI ki)) (va_cwS 1 C.1.2.2.2.2 (gS qw_1678 qw_1679 qw_81 qw_1680) rfl rfl rfl (by decide +kernel) ⟨Nat.le_of_ble_eq_true rfl, Nat.le_of_ble_eq_true rfl⟩) (g_pre C hW_76 hS_72 [.int (nI ki)]) rfl rfl hl_78.1 rfl (lv_room (Nat.le_of_ble_eq_true rfl)) dX8_breaks_70 ⟨Nat.zero_le _, Nat.zero_le _⟩) hS_72 (fun r_80 Y_81 H_82 locs_83 hW_84 hS_85 h_79 => ?_)
        obtain ⟨h_79, hy_86⟩ := h_79
        replace hy_86 := hy_86.symm
        subst hy_86
        replace h_79 : r_80 = oM_ingot (nI ki) := h_79
        subst h_79
        refine g_top (y := nI (80 + 4 * ki)) (at_ingot ki) ?_
        refine lv_iload hx hb dX8_breaks_73 (lv_at hl_78 0 rfl) ?_
        refine lv_iadd hx hb dX8_breaks_75 ?_
        refine g_top (y := nI ((80 + 4 * ki) + 2)) (nI_add (80 + 4 * ki) 2) ?_
        refine lv_aload_n hx hb dX8_breaks_76 rfl (lv_at hl_78 3 rfl) ?_
        refine gM_v C hW_84 (hwc hwX8) (mc qw_1481) dX8_breaks_77 ?_
        refine lv_iload_n hx hb dX8_breaks_80 rfl (lv_at hl_78 2 rfl) ?_
        refine lv_iload hx hb dX8_breaks_81 (lv_at hl_78 0 rfl) ?_
        refine lv_iadd hx hb dX8_breaks_83 ?_
        refine g_top (y := nI ((44 + 6 * f_10) + 2)) (nI_add (44 + 6 * f_10) 2) ?_
        refine gm_vld C hW_84 ((44 + 6 * f_10) + 2) (nI_clamp (by omega)) (vp_in_nI (show (44 + 6 * f_10) + 2 < 128 by omega) (by decide)) dX8_breaks_84 ?_
        refine g_top (y := w_73 ((44 + 6 * f_10) + 2)) (congrFun rd_out _) ?_
        refine gm_vst C hW_84 hS_85 ((80 + 4 * ki) + 2) (nI_clamp (by omega)) (vp_in_nI (show (80 + 4 * ki) + 2 < 128 by omega) (by decide)) dX8_breaks_85 (fun H_87 locs_88 hW_89 hS_90 => ?_)
        obtain ⟨w_91, ew_91⟩ : ∃ Z9, Z9 = upd w_73 ((80 + 4 * ki) + 2) (w_73 ((44 + 6 * f_10) + 2)) := ⟨_, rfl⟩
        have kn_92 : w_91 (42) = nI km := by rw [ew_91]; exact (pk_un (by omega)).trans kn_74
        have kn_93 : w_91 (43) = nI ki := by rw [ew_91]; exact (pk_un (by omega)).trans kn_75
        have hW_94 : Wd G (setRow (setRow X 15 (X.1 15)) 16 w_91) H_87 := Wd.cast (by rw [ew_91]; exact st_out) hW_89
        refine lv_aload_n hx hb dX8_breaks_86 rfl (lv_at hl_78 3 rfl) ?_
        refine gM_v C hW_94 (hwc hwX8) (mc qw_1481) dX8_breaks_87 ?_
        refine lv_iload_n hx hb dX8_breaks_90 rfl (lv_at hl_78 2 rfl) ?_
        refine lv_iload hx hb dX8_breaks_91 (lv_at hl_78 0 rfl) ?_
        refine lv_iadd hx hb dX8_breaks_93 ?_
        refine g_top (y := nI ((44 + 6 * f_10) + 2)) (nI_add (44 + 6 * f_10) 2) ?_
        refine lv_iconst (v := 0) hx hb dX8_breaks_94 (by decide) ?_
        refine gm_vst C hW_94 hS_90 ((44 + 6 * f_10) + 2) (nI_clamp (by omega)) (vp_in_nI (show (44 + 6 * f_10) + 2 < 128 by omega) (by decide)) dX8_breaks_95 (fun H_95 locs_96 hW_97 hS_98 => ?_)
        obtain ⟨w_99, ew_99⟩ : ∃ Z9, Z9 = upd w_91 ((44 + 6 * f_10) + 2) 0 := ⟨_, rfl⟩
        have kn_100 : w_99 (42) = nI km := by rw [ew_99]; exact (pk_un (by omega)).trans kn_92
        have kn_101 : w_99 (43) = nI ki := by rw [ew_99]; exact (pk_un (by omega)).trans kn_93
        have hW_102 : Wd G (setRow (setRow X 15 (X.1 15)) 16 w_99) H_95 := Wd.cast (by rw [ew_99]; exact st_out) hW_97
        refine lv_iinc (v := 3) (lv' := [(4, .int 3), (3, .int (nI ki)), (2, .int (nI (44 + 6 * f_10))), (0, .ref (ad G 723)), (1, .int (nI f_10))]) hx hb dX8_breaks_96 hl_78 (k := 0) rfl (by decide) (by decide) rfl (fun ls_103 hl_104 => ?_)
        refine lv_goto (tgt := 59) hx hb dX8_breaks_99 (by decide) ?_
        refine lv_iload hx hb dX8_breaks_59 (lv_at hl_104 0 rfl) ?_
        refine lv_iconst (v := 4) hx hb dX8_breaks_61 (by decide) ?_
        refine lv_icmp_ge (tgt := 102) hx hb dX8_breaks_62 (by decide) (fun h9 => absurd h9 (by decide)) (fun _ => ?_)
        refine lv_aload_n hx hb dX8_breaks_65 rfl (lv_at hl_104 3 rfl) ?_
        refine gM_v C hW_102 (hwc hwX8) (mc qw_1481) dX8_breaks_66 ?_
        refine lv_iload_n hx hb dX8_breaks_69 rfl (lv_at hl_104 1 rfl) ?_
        refine g_calli (va_runS (As := [.int (nI ki)]) (rest := [.ref (ad G 724)]) C.1 (cX8_ingot_ok l G (setRow (setRow X 15 (X.1 15)) 16 w_99) (nI ki)) (va_cwS 1 C.1.2.2.2.2 (gS qw_1678 qw_1679 qw_81 qw_1680) rfl rfl rfl (by decide +kernel) ⟨Nat.le_of_ble_eq_true rfl, Nat.le_of_ble_eq_true rfl⟩) (g_pre C hW_102 hS_98 [.int (nI ki)]) rfl rfl hl_104.1 rfl (lv_room (Nat.le_of_ble_eq_true rfl)) dX8_breaks_70 ⟨Nat.zero_le _, Nat.zero_le _⟩) hS_98 (fun r_106 Y_107 H_108 locs_109 hW_110 hS_111 h_105 => ?_)
        obtain ⟨h_105, hy_112⟩ := h_105
        replace hy_112 := hy_112.symm
        subst hy_112
        replace h_105 : r_106 = oM_ingot (nI ki) := h_105
        subst h_105
        refine g_top (y := nI (80 + 4 * ki)) (at_ingot ki) ?_
        refine lv_iload hx hb dX8_breaks_73 (lv_at hl_104 0 rfl) ?_
        refine lv_iadd hx hb dX8_breaks_75 ?_
        refine g_top (y := nI ((80 + 4 * ki) + 3)) (nI_add (80 + 4 * ki) 3) ?_
        refine lv_aload_n hx hb dX8_breaks_76 rfl (lv_at hl_104 3 rfl) ?_
        refine gM_v C hW_110 (hwc hwX8) (mc qw_1481) dX8_breaks_77 ?_
        refine lv_iload_n hx hb dX8_breaks_80 rfl (lv_at hl_104 2 rfl) ?_
        refine lv_iload hx hb dX8_breaks_81 (lv_at hl_104 0 rfl) ?_
        refine lv_iadd hx hb dX8_breaks_83 ?_
        refine g_top (y := nI ((44 + 6 * f_10) + 3)) (nI_add (44 + 6 * f_10) 3) ?_
        refine gm_vld C hW_110 ((44 + 6 * f_10) + 3) (nI_clamp (by omega)) (vp_in_nI (show (44 + 6 * f_10) + 3 < 128 by omega) (by decide)) dX8_breaks_84 ?_
        refine g_top (y := w_99 ((44 + 6 * f_10) + 3)) (congrFun rd_out _) ?_
        refine gm_vst C hW_110 hS_111 ((80 + 4 * ki) + 3) (nI_clamp (by omega)) (vp_in_nI (show (80 + 4 * ki) + 3 < 128 by omega) (by decide)) dX8_breaks_85 (fun H_113 locs_114 hW_115 hS_116 => ?_)
        obtain ⟨w_117, ew_117⟩ : ∃ Z9, Z9 = upd w_99 ((80 + 4 * ki) + 3) (w_99 ((44 + 6 * f_10) + 3)) := ⟨_, rfl⟩
        have kn_118 : w_117 (42) = nI km := by rw [ew_117]; exact (pk_un (by omega)).trans kn_100
        have kn_119 : w_117 (43) = nI ki := by rw [ew_117]; exact (pk_un (by omega)).trans kn_101
        have hW_120 : Wd G (setRow (setRow X 15 (X.1 15)) 16 w_117) H_113 := Wd.cast (by rw [ew_117]; exact st_out) hW_115
        refine lv_aload_n hx hb dX8_breaks_86 rfl (lv_at hl_104 3 rfl) ?_
        refine gM_v C hW_120 (hwc hwX8) (mc qw_1481) dX8_breaks_87 ?_
        refine lv_iload_n hx hb dX8_breaks_90 rfl (lv_at hl_104 2 rfl) ?_
        refine lv_iload hx hb dX8_breaks_91 (lv_at hl_104 0 rfl) ?_
        refine lv_iadd hx hb dX8_breaks_93 ?_
        refine g_top (y := nI ((44 + 6 * f_10) + 3)) (nI_add (44 + 6 * f_10) 3) ?_
        refine lv_iconst (v := 0) hx hb dX8_breaks_94 (by decide) ?_
        refine gm_vst C hW_120 hS_116 ((44 + 6 * f_10) + 3) (nI_clamp (by omega)) (vp_in_nI (show (44 + 6 * f_10) + 3 < 128 by omega) (by decide)) dX8_breaks_95 (fun H_121 locs_122 hW_123 hS_124 => ?_)
        obtain ⟨w_125, ew_125⟩ : ∃ Z9, Z9 = upd w_117 ((44 + 6 * f_10) + 3) 0 := ⟨_, rfl⟩
        have kn_126 : w_125 (42) = nI km := by rw [ew_125]; exact (pk_un (by omega)).trans kn_118
        have kn_127 : w_125 (43) = nI ki := by rw [ew_125]; exact (pk_un (by omega)).trans kn_119
        have hW_128 : Wd G (setRow (setRow X 15 (X.1 15)) 16 w_125) H_121 := Wd.cast (by rw [ew_125]; exact st_out) hW_123
        refine lv_iinc (v := 4) (lv' := [(4, .int 4), (3, .int (nI ki)), (2, .int (nI (44 + 6 * f_10))), (0, .ref (ad G 723)), (1, .int (nI f_10))]) hx hb dX8_breaks_96 hl_104 (k := 0) rfl (by decide) (by decide) rfl (fun ls_129 hl_130 => ?_)
        refine lv_goto (tgt := 59) hx hb dX8_breaks_99 (by decide) ?_
        refine lv_iload hx hb dX8_breaks_59 (lv_at hl_130 0 rfl) ?_
        refine lv_iconst (v := 4) hx hb dX8_breaks_61 (by decide) ?_
        refine lv_icmp_ge (tgt := 102) hx hb dX8_breaks_62 (by decide) (fun _ => ?_) (fun h9 => absurd h9 (by decide))
        refine lv_aload_n hx hb dX8_breaks_102 rfl (lv_at hl_130 3 rfl) ?_
        refine gM_v C hW_128 (hwc hwX8) (mc qw_1481) dX8_breaks_103 ?_
        refine lv_iload_n hx hb dX8_breaks_106 rfl (lv_at hl_130 2 rfl) ?_
        refine lv_iconst (v := 5) hx hb dX8_breaks_107 (by decide) ?_
        refine lv_iadd hx hb dX8_breaks_108 ?_
        refine g_top (y := nI ((44 + 6 * f_10) + 5)) (nI_add (44 + 6 * f_10) 5) ?_
        refine lv_iconst (v := 0) hx hb dX8_breaks_109 (by decide) ?_
        refine gm_vst C hW_128 hS_124 ((44 + 6 * f_10) + 5) (nI_clamp (by omega)) (vp_in_nI (show (44 + 6 * f_10) + 5 < 128 by omega) (by decide)) dX8_breaks_110 (fun H_131 locs_132 hW_133 hS_134 => ?_)
        obtain ⟨w_135, ew_135⟩ : ∃ Z9, Z9 = upd w_125 ((44 + 6 * f_10) + 5) 0 := ⟨_, rfl⟩
        have kn_136 : w_135 (42) = nI km := by rw [ew_135]; exact (pk_un (by omega)).trans kn_126
        have kn_137 : w_135 (43) = nI ki := by rw [ew_135]; exact (pk_un (by omega)).trans kn_127
        have hW_138 : Wd G (setRow (setRow X 15 (X.1 15)) 16 w_135) H_131 := Wd.cast (by rw [ew_135]; exact st_out) hW_133
        refine lv_aload_n hx hb dX8_breaks_111 rfl (lv_at hl_130 3 rfl) ?_
        refine gM_v C hW_138 (hwc hwX8) (mc qw_1481) dX8_breaks_112 ?_
        refine lv_bipush (v := 43) hx hb dX8_breaks_115 (by decide) ?_
        refine lv_dup2_11 hx hb dX8_breaks_117 rfl rfl ?_
        refine gm_vld C hW_138 43 (by decide) (vlit (by decide)) dX8_breaks_118 ?_
        refine g_top (y := w_135 (43)) (congrFun rd_out _) ?_
        refine g_top (y := nI ki) kn_137 ?_
        refine lv_iconst (v := 1) hx hb dX8_breaks_119 (by decide) ?_
        refine lv_iadd hx hb dX8_breaks_120 ?_
        refine g_top (y := nI (ki + 1)) (nI_add ki 1) ?_
        refine gm_vst C hW_138 hS_134 43 (by decide) (vlit (by decide)) dX8_breaks_121 (fun H_139 locs_140 hW_141 hS_142 => ?_)
        obtain ⟨w_143, ew_143⟩ : ∃ Z9, Z9 = upd w_135 (43) (nI (ki + 1)) := ⟨_, rfl⟩
        have kn_144 : w_143 (42) = nI km := by rw [ew_143]; exact (pk_un (by omega)).trans kn_136
        have kn_145 : w_143 (43) = nI (ki + 1) := by rw [ew_143]; exact pk_us
        have hW_146 : Wd G (setRow (setRow X 15 (X.1 15)) 16 w_143) H_139 := Wd.cast (by rw [ew_143]; exact st_out) hW_141
        refine lv_iload_n hx hb dX8_breaks_122 rfl (lv_at hl_130 1 rfl) ?_
        exact g_iret C hr hlk hW_146 hS_142 dX8_breaks_123 (by subst ew_143; subst ew_135; subst ew_125; subst ew_117; subst ew_99; subst ew_91; subst ew_73; subst ew_65; subst ew_47; subst ew_39; exact ⟨(by first | rfl | (simp only [oM_breaks, clf (show f_10 < 2 ^ 31 by omega), b_9, b_23, b_24, if_true, if_false, em, ei, clf (show km < 2 ^ 31 by omega), clf (show ki < 2 ^ 31 by omega), nI_1]; first | done | rfl)), (by first | rfl | (simp only [oM_breaks, clf (show f_10 < 2 ^ 31 by omega), b_9, b_23, b_24, if_true, if_false, em, ei, clf (show km < 2 ^ 31 by omega), clf (show ki < 2 ^ 31 by omega), nI_1]; first | done | rfl))⟩)
      · have fb_24 : ki = 12 := (nI_eq (a := ki) (b := 12) (by omega) (by omega)).mp b_24
        refine lv_aload_n hx hb dX8_breaks_50 rfl (lv_at hl_22 2 rfl) ?_
        refine lv_iconst (v := 3) hx hb dX8_breaks_51 (by decide) ?_
        refine g_calli (va_runV (As := [.int 3]) (rest := []) C.1 (cX8_fail_ok l G (setRow (setRow X 15 (X.1 15)) 16 (X.1 16)) 3) (cwV 1 C.1.2.2.2.2 (gV qw_1571 qw_1573 qw_31 qw_81 qw_1574) rfl rfl rfl (by decide +kernel) ⟨Nat.le_of_ble_eq_true rfl, Nat.le_of_ble_eq_true rfl⟩) (g_rModel C hW_16 hS_17 [.int 3]) rfl rfl hl_22.1 rfl (lv_room (Nat.le_of_ble_eq_true rfl)) dX8_breaks_52 ⟨Nat.zero_le _, Nat.zero_le _⟩) hS_17 (fun r_148 Y_149 H_150 locs_151 hW_152 hS_153 h_147 => ?_)
        obtain ⟨h_154, h_147⟩ := h_147
        replace h_154 : r_148 = (oM_fail (X.1 15) 3).1 := h_154
        subst h_154
        replace h_147 : Y_149 = setRow (setRow (setRow X 15 (X.1 15)) 16 (X.1 16)) 15 ((oM_fail (X.1 15) 3).2) := h_147
        obtain ⟨w_155, ew_155⟩ : ∃ Z9, Z9 = (oM_fail (X.1 15) 3).2 := ⟨_, rfl⟩
        have qqw_155 : Y_149 = setRow (setRow (setRow X 15 (X.1 15)) 16 (X.1 16)) 15 w_155 := by rw [h_147, ew_155]
        have hW_156 : Wd G (setRow (setRow X 15 w_155) 16 (X.1 16)) H_150 := Wd.cast ((qqw_155).trans (congrArg (fun Z9 => Z9) (sr_in (by decide) sr_out))) hW_152
        exact g_iret C hr hlk hW_156 hS_153 dX8_breaks_55 (by subst ew_155; exact ⟨(by first | rfl | (simp only [oM_breaks, clf (show f_10 < 2 ^ 31 by omega), b_9, b_23, eq_true b_24, if_true, if_false, em, ei, clf (show km < 2 ^ 31 by omega), clf (show ki < 2 ^ 31 by omega), nI_1]; first | done | rfl)), (by first | rfl | (simp only [oM_breaks, clf (show f_10 < 2 ^ 31 by omega), b_9, b_23, eq_true b_24, if_true, if_false, em, ei, clf (show km < 2 ^ 31 by omega), clf (show ki < 2 ^ 31 by omega), nI_1]; first | done | rfl))⟩)
    · refine lv_aload_n hx hb dX8_breaks_38 rfl (lv_at hl_22 2 rfl) ?_
      refine lv_iconst (v := 2) hx hb dX8_breaks_39 (by decide) ?_
      refine g_calli (va_runV (As := [.int 2]) (rest := []) C.1 (cX8_fail_ok l G (setRow (setRow X 15 (X.1 15)) 16 (X.1 16)) 2) (cwV 1 C.1.2.2.2.2 (gV qw_1571 qw_1573 qw_31 qw_81 qw_1574) rfl rfl rfl (by decide +kernel) ⟨Nat.le_of_ble_eq_true rfl, Nat.le_of_ble_eq_true rfl⟩) (g_rModel C hW_16 hS_17 [.int 2]) rfl rfl hl_22.1 rfl (lv_room (Nat.le_of_ble_eq_true rfl)) dX8_breaks_40 ⟨Nat.zero_le _, Nat.zero_le _⟩) hS_17 (fun r_158 Y_159 H_160 locs_161 hW_162 hS_163 h_157 => ?_)
      obtain ⟨h_164, h_157⟩ := h_157
      replace h_164 : r_158 = (oM_fail (X.1 15) 2).1 := h_164
      subst h_164
      replace h_157 : Y_159 = setRow (setRow (setRow X 15 (X.1 15)) 16 (X.1 16)) 15 ((oM_fail (X.1 15) 2).2) := h_157
      obtain ⟨w_165, ew_165⟩ : ∃ Z9, Z9 = (oM_fail (X.1 15) 2).2 := ⟨_, rfl⟩
      have qqw_165 : Y_159 = setRow (setRow (setRow X 15 (X.1 15)) 16 (X.1 16)) 15 w_165 := by rw [h_157, ew_165]
      have hW_166 : Wd G (setRow (setRow X 15 w_165) 16 (X.1 16)) H_160 := Wd.cast ((qqw_165).trans (congrArg (fun Z9 => Z9) (sr_in (by decide) sr_out))) hW_162
      exact g_iret C hr hlk hW_166 hS_163 dX8_breaks_43 (by subst ew_165; exact ⟨(by first | rfl | (simp only [oM_breaks, clf (show f_10 < 2 ^ 31 by omega), b_9, eq_true b_23, if_true, if_false, em, ei, clf (show km < 2 ^ 31 by omega), clf (show ki < 2 ^ 31 by omega), nI_1]; first | done | rfl)), (by first | rfl | (simp only [oM_breaks, clf (show f_10 < 2 ^ 31 by omega), b_9, eq_true b_23, if_true, if_false, em, ei, clf (show km < 2 ^ 31 by omega), clf (show ki < 2 ^ 31 by omega), nI_1]; first | done | rfl))⟩)
  · refine lv_aload_n hx hb dX8_breaks_8 rfl (lv_at hl 0 rfl) ?_
    refine lv_iconst (v := 1) hx hb dX8_breaks_9 (by decide) ?_
    refine g_calli (va_runV (As := [.int 1]) (rest := []) C.1 (cX8_fail_ok l G (setRow (setRow X 15 (X.1 15)) 16 (X.1 16)) 1) (cwV 1 C.1.2.2.2.2 (gV qw_1571 qw_1573 qw_31 qw_81 qw_1574) rfl rfl rfl (by decide +kernel) ⟨Nat.le_of_ble_eq_true rfl, Nat.le_of_ble_eq_true rfl⟩) (g_rModel C hW_6 hS_7 [.int 1]) rfl rfl hl.1 rfl (lv_room (Nat.le_of_ble_eq_true rfl)) dX8_breaks_10 ⟨Nat.zero_le _, Nat.zero_le _⟩) hS_7 (fun r_168 Y_169 H_170 locs_171 hW_172 hS_173 h_167 => ?_)
    obtain ⟨h_174, h_167⟩ := h_167
    replace h_174 : r_168 = (oM_fail (X.1 15) 1).1 := h_174
    subst h_174
    replace h_167 : Y_169 = setRow (setRow (setRow X 15 (X.1 15)) 16 (X.1 16)) 15 ((oM_fail (X.1 15) 1).2) := h_167
    obtain ⟨w_175, ew_175⟩ : ∃ Z9, Z9 = (oM_fail (X.1 15) 1).2 := ⟨_, rfl⟩
    have qqw_175 : Y_169 = setRow (setRow (setRow X 15 (X.1 15)) 16 (X.1 16)) 15 w_175 := by rw [h_167, ew_175]
    have hW_176 : Wd G (setRow (setRow X 15 w_175) 16 (X.1 16)) H_170 := Wd.cast ((qqw_175).trans (congrArg (fun Z9 => Z9) (sr_in (by decide) sr_out))) hW_172
    exact g_iret C hr hlk hW_176 hS_173 dX8_breaks_13 (by subst ew_175; exact ⟨(by first | rfl | (simp only [oM_breaks, eq_true b_9, if_true, if_false, em, ei, clf (show km < 2 ^ 31 by omega), clf (show ki < 2 ^ 31 by omega), nI_1]; first | done | rfl)), (by first | rfl | (simp only [oM_breaks, eq_true b_9, if_true, if_false, em, ei, clf (show km < 2 ^ 31 by omega), clf (show ki < 2 ^ 31 by omega), nI_1]; first | done | rfl))⟩)
