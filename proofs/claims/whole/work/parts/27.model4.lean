/-! Melting down, passing time, and what lies around every change. -/
def shG (w : Nat → Int32) (a k : Nat) : Nat → Int32 := fun j => if a ≤ j ∧ j < k then (if j + 4 < 128 then w (j + 4) else 0) else w j
theorem sh_0 {w : Nat → Int32} {a : Nat} : shG w a a = w := funext fun j => if_neg (by omega)
theorem sh_s1 {w : Nat → Int32} {a k : Nat} (h : a ≤ k) (h2 : ¬ 128 ≤ k + 4 ∨ k + 4 < 128) : upd (shG w a k) k (shG w a k (k + 4)) = shG w a (k + 1) := by
  funext j
  by_cases e : j = k
  · subst e
    rw [pk_us]
    unfold shG
    rw [if_neg (by omega), if_pos (by omega), if_pos (by omega)]
  · rw [pk_un e]
    unfold shG
    by_cases h3 : a ≤ j ∧ j < k
    · rw [if_pos h3, if_pos (show a ≤ j ∧ j < k + 1 by omega)]
    · rw [if_neg h3, if_neg (by omega)]
theorem sh_s2 {w : Nat → Int32} {a k : Nat} (h : a ≤ k) (h2 : 128 ≤ k + 4) : upd (shG w a k) k 0 = shG w a (k + 1) := by
  funext j
  by_cases e : j = k
  · subst e
    rw [pk_us]
    unfold shG
    rw [if_pos (by omega), if_neg (by omega)]
  · rw [pk_un e]
    unfold shG
    by_cases h3 : a ≤ j ∧ j < k
    · rw [if_pos h3, if_pos (show a ≤ j ∧ j < k + 1 by omega)]
    · rw [if_neg h3, if_neg (by omega)]
def mpR (p w : Nat → Int32) (a : Nat) : Nat → Int32 := upd (upd (upd (upd p 0 (w a)) 1 (w (a + 1))) 2 (w (a + 2))) 3 (w (a + 3))
theorem mpR_S {p w : Nat → Int32} {a s : Nat} (h : MixS w a s) : MixS (mpR p w a) 0 s := by
  obtain ⟨x, y, z, t, h1, h2, h3, h4, h5⟩ := h
  exact ⟨x, y, z, t, h1, h2, h3, h4, h5⟩
theorem nz_melt {w w' p p0 : Nat → Int32} {f a : Nat} (h : ∃ s, s ≤ 100 ∧ MixS w (9 + 6 * f) s) (h2 : ∃ s, 1 ≤ s ∧ s ≤ 40 ∧ MixS w a s) (e : ∀ j, j < 4 → w' (9 + 6 * f + j) = w (9 + 6 * f + j)) (hp : p = mpR p0 w a) : ¬ oM_mass w' (9 + 6 * f) + 10 + oM_partMass p = 0 := by
  obtain ⟨s, _, hs, hm⟩ := h2
  exact nz_feed h e (by rw [hp]; exact mpR_S hm) (by omega)
def furM (w : Nat → Int32) (f : Nat) : Nat → Int32 := upd w (9 + 6 * f + 4) (oM_held (w (9 + 6 * f + 4) + 10 * w (9 + 6 * f + 5) - 5))
def ladM (w : Nat → Int32) (f : Nat) : Nat → Int32 := if oM_mass w (27 + 5 * f) ≤ 0 then w else upd w (27 + 5 * f + 4) (oM_held (w (27 + 5 * f + 4) - 10))
def minuteM (w : Nat → Int32) : Nat → Int32 := ladM (ladM (ladM (furM (furM (furM (upd w 0 (w 0 + 1)) 0) 1) 2) 0) 1) 2
def itMM : Nat → (Nat → Int32) → (Nat → Int32)
  | 0, w => w
  | q + 1, w => itMM q (minuteM w)
def molM (w w21 : Nat → Int32) : Int32 := (if oM_isFluid w w21 (9 + 6 * 0) = 0 then 0 else 1) + (if oM_isFluid w w21 (9 + 6 * 1) = 0 then 0 else 1) + (if oM_isFluid w w21 (9 + 6 * 2) = 0 then 0 else 1)
def cpT (n : Nat) (t f : Nat → Int32) : Nat → Int32 := fun j => if j < n then f j else t j
theorem cpT_0 {t f : Nat → Int32} : cpT 0 t f = t := funext fun j => if_neg (by omega)
theorem cpT_s {t f : Nat → Int32} {k : Nat} : upd (cpT k t f) k (f k) = cpT (k + 1) t f := by
  funext j
  by_cases e : j = k
  · subst e
    rw [pk_us]
    unfold cpT
    rw [if_pos (by omega)]
  · rw [pk_un e]
    unfold cpT
    by_cases h3 : j < k
    · rw [if_pos h3, if_pos (by omega)]
    · rw [if_neg h3, if_neg (by omega)]
def shP (w : Nat → Int32) (k : Nat) : Nat → Int32 := fun j => if j < k then w (j + 128) else w j
theorem shP_0 {w : Nat → Int32} : shP w 0 = w := funext fun j => if_neg (by omega)
theorem shP_s {w : Nat → Int32} {k : Nat} (_h : k < 1024) : upd (shP w k) k (shP w k (k + 128)) = shP w (k + 1) := by
  funext j
  by_cases e : j = k
  · subst e
    rw [pk_us]
    unfold shP
    rw [if_neg (by omega), if_pos (by omega)]
  · rw [pk_un e]
    unfold shP
    by_cases h3 : j < k
    · rw [if_pos h3, if_pos (by omega)]
    · rw [if_neg h3, if_neg (by omega)]
def cpP (w : Nat → Int32) (c : Nat) (b : Nat → Int32) (k : Nat) : Nat → Int32 := fun j => if c * 128 ≤ j ∧ j < c * 128 + k then b (j - c * 128) else w j
theorem cpP_0 {w b : Nat → Int32} {c : Nat} : cpP w c b 0 = w := funext fun j => if_neg (by omega)
theorem cpP_s {w b : Nat → Int32} {c k : Nat} : upd (cpP w c b k) (c * 128 + k) (b k) = cpP w c b (k + 1) := by
  funext j
  by_cases e : j = c * 128 + k
  · subst e
    rw [pk_us]
    unfold cpP
    rw [if_pos (by omega), show c * 128 + k - c * 128 = k by omega]
  · rw [pk_un e]
    unfold cpP
    by_cases h3 : c * 128 ≤ j ∧ j < c * 128 + k
    · rw [if_pos h3, if_pos (by omega)]
    · rw [if_neg h3, if_neg (by omega)]
def oM_melts (w15 : Nat → Int32) (w16 : Nat → Int32) (w20 : Nat → Int32) (i : Int32) (f : Int32) : Int32 × ((Nat → Int32) × ((Nat → Int32) × (Nat → Int32))) := 
  if oM_isIngot w16 i = 0 then ((oM_fail w15 1).1, (oM_fail w15 1).2, w16, w20)
  else if oM_isThree f = 0 then ((oM_fail w15 1).1, (oM_fail w15 1).2, w16, w20)
  else if oM_mass w16 (9 + 6 * f.toNatClampNeg) + oM_mass w16 (80 + 4 * i.toNatClampNeg) ≤ 100 then
    let p := mpR w20 w16 (80 + 4 * i.toNatClampNeg)
    let w1 := upd (shG w16 (80 + 4 * i.toNatClampNeg) 128) 43 (shG w16 (80 + 4 * i.toNatClampNeg) 128 43 - 1)
    ((oM_feeds w1 p f.toNatClampNeg 20).1, w15, (oM_feeds w1 p f.toNatClampNeg 20).2, p)
  else ((oM_fail w15 2).1, (oM_fail w15 2).2, w16, w20)
set_option maxHeartbeats 4000000 in
set_option maxRecDepth 100000 in
theorem cX8_melts_ok (l : Launch) (G : GT) (X : St) (i : Int32) (f : Int32) (hm : MInv (X.1 16)) : MetI l G yX8_melts (wsG yX8_melts cX8_melts 4 (some .int)) (rmz 2 47) [.ref (ad G 723), .int i, .int f] X (fun res Y => res = (oM_melts (X.1 15) (X.1 16) (X.1 20) i f).1 ∧ Y = setRow (setRow (setRow (X) 15 ((oM_melts (X.1 15) (X.1 16) (X.1 20) i f).2.1)) 16 ((oM_melts (X.1 15) (X.1 16) (X.1 20) i f).2.2.1)) 20 ((oM_melts (X.1 15) (X.1 16) (X.1 20) i f).2.2.2)) := by
  refine g_met (cc := cX8_melts) (maxL := 4) (ret := (some .int)) (by decide) rfl (Nat.le_of_ble_eq_true rfl) ?_
  intro p e s m below meth c ls C hr hlk hnm hW hl
  have hx := C.1.1
  have hb := C.1.2.1
  have hS : va_S (Ab G) s.heap s.heap [] := va_S.rf
  have hl : lv_has ls 4 [(0, .ref (ad G 723)), (1, .int i), (2, .int f)] := hl
  have hW : Wd G (setRow (setRow (setRow (X) 15 (X.1 15)) 16 (X.1 16)) 20 (X.1 20)) s.heap := Wd.cast ((((sr_same (X := setRow (setRow (X) 15 (X.1 15)) 16 (X.1 16)) (r := 20) rfl).trans (sr_same (X := setRow (X) 15 (X.1 15)) (r := 16) rfl)).trans (sr_same (X := X) (r := 15) rfl))).symm hW
  obtain ⟨km, hkm, em, hmm⟩ := hm.2.2.1
  obtain ⟨ki, hki, ei, hii⟩ := hm.2.2.2.1
  refine lv_aload_n hx hb dX8_melts_0 rfl (lv_at hl 0 rfl) ?_
  refine lv_iload_n hx hb dX8_melts_1 rfl (lv_at hl 1 rfl) ?_
  refine g_calli (va_runV (As := [.int i]) (rest := []) C.1 (cX8_isIngot_ok l G (setRow (setRow (setRow X 15 (X.1 15)) 16 (X.1 16)) 20 (X.1 20)) i) (cwV 1 C.1.2.2.2.2 (gV qw_1689 qw_1691 qw_51 qw_81 qw_1692) rfl rfl rfl (by decide +kernel) ⟨Nat.le_of_ble_eq_true rfl, Nat.le_of_ble_eq_true rfl⟩) (g_rModel C hW hS [.int i]) rfl rfl hl.1 rfl (lv_room (Nat.le_of_ble_eq_true rfl)) dX8_melts_2 ⟨Nat.zero_le _, Nat.zero_le _⟩) hS (fun r_2 Y_3 H_4 locs_5 hW_6 hS_7 h_1 => ?_)
  obtain ⟨h_1, hy_8⟩ := h_1
  replace hy_8 := hy_8.symm
  subst hy_8
  replace h_1 : r_2 = oM_isIngot (X.1 16) i := h_1
  subst h_1
  refine lv_if_eq (tgt := 15) hx hb dX8_melts_5 (by decide) (fun b_9 => ?_) (fun b_9 => ?_)
  · refine lv_aload_n hx hb dX8_melts_15 rfl (lv_at hl 0 rfl) ?_
    refine lv_iconst (v := 1) hx hb dX8_melts_16 (by decide) ?_
    refine g_calli (va_runV (As := [.int 1]) (rest := []) C.1 (cX8_fail_ok l G (setRow (setRow (setRow X 15 (X.1 15)) 16 (X.1 16)) 20 (X.1 20)) 1) (cwV 1 C.1.2.2.2.2 (gV qw_1571 qw_1573 qw_31 qw_81 qw_1574) rfl rfl rfl (by decide +kernel) ⟨Nat.le_of_ble_eq_true rfl, Nat.le_of_ble_eq_true rfl⟩) (g_rModel C hW_6 hS_7 [.int 1]) rfl rfl hl.1 rfl (lv_room (Nat.le_of_ble_eq_true rfl)) dX8_melts_17 ⟨Nat.zero_le _, Nat.zero_le _⟩) hS_7 (fun r_11 Y_12 H_13 locs_14 hW_15 hS_16 h_10 => ?_)
    obtain ⟨h_17, h_10⟩ := h_10
    replace h_17 : r_11 = (oM_fail (X.1 15) 1).1 := h_17
    subst h_17
    replace h_10 : Y_12 = setRow (setRow (setRow (setRow X 15 (X.1 15)) 16 (X.1 16)) 20 (X.1 20)) 15 ((oM_fail (X.1 15) 1).2) := h_10
    obtain ⟨w_18, ew_18⟩ : ∃ Z9, Z9 = (oM_fail (X.1 15) 1).2 := ⟨_, rfl⟩
    have qqw_18 : Y_12 = setRow (setRow (setRow (setRow X 15 (X.1 15)) 16 (X.1 16)) 20 (X.1 20)) 15 w_18 := by rw [h_10, ew_18]
    have hW_19 : Wd G (setRow (setRow (setRow X 15 w_18) 16 (X.1 16)) 20 (X.1 20)) H_13 := Wd.cast ((qqw_18).trans (congrArg (fun Z9 => Z9) (sr_in (by decide) (sr_in (by decide) sr_out)))) hW_15
    exact g_iret C hr hlk hW_19 hS_16 dX8_melts_20 (by subst ew_18; exact ⟨(by simp only [oM_melts, em, ei, clf (show km < 2 ^ 31 by omega), clf (show ki < 2 ^ 31 by omega), eq_true b_9, if_true, if_false]), (by simp only [oM_melts, em, ei, clf (show km < 2 ^ 31 by omega), clf (show ki < 2 ^ 31 by omega), eq_true b_9, if_true, if_false])⟩)
  · obtain ⟨f_20, hf_20, rfl⟩ := count_in (by omega) ei b_9
    refine lv_iload_n hx hb dX8_melts_8 rfl (lv_at hl 2 rfl) ?_
    refine g_calli (va_runS (As := [.int f]) (rest := []) C.1 (cX8_isThree_ok l G (setRow (setRow (setRow X 15 (X.1 15)) 16 (X.1 16)) 20 (X.1 20)) f) (va_cwS 1 C.1.2.2.2.2 (gS qw_1565 qw_1566 qw_81 qw_1567) rfl rfl rfl (by decide +kernel) ⟨Nat.le_of_ble_eq_true rfl, Nat.le_of_ble_eq_true rfl⟩) (g_pre C hW_6 hS_7 [.int f]) rfl rfl hl.1 rfl (lv_room (Nat.le_of_ble_eq_true rfl)) dX8_melts_9 ⟨Nat.zero_le _, Nat.zero_le _⟩) hS_7 (fun r_22 Y_23 H_24 locs_25 hW_26 hS_27 h_21 => ?_)
    obtain ⟨h_21, hy_28⟩ := h_21
    replace hy_28 := hy_28.symm
    subst hy_28
    replace h_21 : r_22 = oM_isThree f := h_21
    subst h_21
    refine lv_if_ne (tgt := 21) hx hb dX8_melts_12 (by decide) (fun b_29 => ?_) (fun b_29 => ?_)
    · obtain ⟨f_30, hf_30, rfl⟩ := three_in b_29
      refine lv_aload_n hx hb dX8_melts_21 rfl (lv_at hl 0 rfl) ?_
      refine lv_iload_n hx hb dX8_melts_22 rfl (lv_at hl 2 rfl) ?_
      refine g_calli (va_runS (As := [.int (nI f_30)]) (rest := [.ref (ad G 723)]) C.1 (cX8_furnace_ok l G (setRow (setRow (setRow X 15 (X.1 15)) 16 (X.1 16)) 20 (X.1 20)) (nI f_30)) (va_cwS 1 C.1.2.2.2.2 (gS qw_1470 qw_1471 qw_81 qw_1472) rfl rfl rfl (by decide +kernel) ⟨Nat.le_of_ble_eq_true rfl, Nat.le_of_ble_eq_true rfl⟩) (g_pre C hW_26 hS_27 [.int (nI f_30)]) rfl rfl hl.1 rfl (lv_room (Nat.le_of_ble_eq_true rfl)) dX8_melts_23 ⟨Nat.zero_le _, Nat.zero_le _⟩) hS_27 (fun r_32 Y_33 H_34 locs_35 hW_36 hS_37 h_31 => ?_)
      obtain ⟨h_31, hy_38⟩ := h_31
      replace hy_38 := hy_38.symm
      subst hy_38
      replace h_31 : r_32 = oM_furnace (nI f_30) := h_31
      subst h_31
      refine g_top (y := nI (9 + 6 * f_30)) (at_furnace f_30) ?_
      refine g_calli (va_runV (As := [.int (nI (9 + 6 * f_30))]) (rest := []) C.1 (cX8_mass_ok l G (setRow (setRow (setRow X 15 (X.1 15)) 16 (X.1 16)) 20 (X.1 20)) (9 + 6 * f_30) (show 9 + 6 * f_30 + 4 ≤ 128 by omega)) (cwV 1 C.1.2.2.2.2 (gV qw_1575 qw_1577 qw_32 qw_81 qw_1578) rfl rfl rfl (by decide +kernel) ⟨Nat.le_of_ble_eq_true rfl, Nat.le_of_ble_eq_true rfl⟩) (g_rModel C hW_36 hS_37 [.int (nI (9 + 6 * f_30))]) rfl rfl hl.1 rfl (lv_room (Nat.le_of_ble_eq_true rfl)) dX8_melts_26 ⟨Nat.zero_le _, Nat.zero_le _⟩) hS_37 (fun r_40 Y_41 H_42 locs_43 hW_44 hS_45 h_39 => ?_)
      obtain ⟨h_39, hy_46⟩ := h_39
      replace hy_46 := hy_46.symm
      subst hy_46
      replace h_39 : r_40 = oM_mass (X.1 16) (9 + 6 * f_30) := h_39
      subst h_39
      refine lv_aload_n hx hb dX8_melts_29 rfl (lv_at hl 0 rfl) ?_
      refine lv_iload_n hx hb dX8_melts_30 rfl (lv_at hl 1 rfl) ?_
      refine g_calli (va_runS (As := [.int (nI f_20)]) (rest := [.ref (ad G 723), .int (oM_mass (X.1 16) (9 + 6 * f_30))]) C.1 (cX8_ingot_ok l G (setRow (setRow (setRow X 15 (X.1 15)) 16 (X.1 16)) 20 (X.1 20)) (nI f_20)) (va_cwS 1 C.1.2.2.2.2 (gS qw_1678 qw_1679 qw_81 qw_1680) rfl rfl rfl (by decide +kernel) ⟨Nat.le_of_ble_eq_true rfl, Nat.le_of_ble_eq_true rfl⟩) (g_pre C hW_44 hS_45 [.int (nI f_20)]) rfl rfl hl.1 rfl (lv_room (Nat.le_of_ble_eq_true rfl)) dX8_melts_31 ⟨Nat.zero_le _, Nat.zero_le _⟩) hS_45 (fun r_48 Y_49 H_50 locs_51 hW_52 hS_53 h_47 => ?_)
      obtain ⟨h_47, hy_54⟩ := h_47
      replace hy_54 := hy_54.symm
      subst hy_54
      replace h_47 : r_48 = oM_ingot (nI f_20) := h_47
      subst h_47
      refine g_top (y := nI (80 + 4 * f_20)) (at_ingot f_20) ?_
      refine g_calli (va_runV (As := [.int (nI (80 + 4 * f_20))]) (rest := [.int (oM_mass (X.1 16) (9 + 6 * f_30))]) C.1 (cX8_mass_ok l G (setRow (setRow (setRow X 15 (X.1 15)) 16 (X.1 16)) 20 (X.1 20)) (80 + 4 * f_20) (show 80 + 4 * f_20 + 4 ≤ 128 by omega)) (cwV 1 C.1.2.2.2.2 (gV qw_1575 qw_1577 qw_32 qw_81 qw_1578) rfl rfl rfl (by decide +kernel) ⟨Nat.le_of_ble_eq_true rfl, Nat.le_of_ble_eq_true rfl⟩) (g_rModel C hW_52 hS_53 [.int (nI (80 + 4 * f_20))]) rfl rfl hl.1 rfl (lv_room (Nat.le_of_ble_eq_true rfl)) dX8_melts_34 ⟨Nat.zero_le _, Nat.zero_le _⟩) hS_53 (fun r_56 Y_57 H_58 locs_59 hW_60 hS_61 h_55 => ?_)
      obtain ⟨h_55, hy_62⟩ := h_55
      replace hy_62 := hy_62.symm
      subst hy_62
      replace h_55 : r_56 = oM_mass (X.1 16) (80 + 4 * f_20) := h_55
      subst h_55
      refine lv_iadd hx hb dX8_melts_37 ?_
      refine lv_bipush (v := 100) hx hb dX8_melts_38 (by decide) ?_
      refine lv_icmp_le (tgt := 49) hx hb dX8_melts_40 (by decide) (fun b_63 => ?_) (fun b_63 => ?_)
      · refine lv_iconst (v := 0) hx hb dX8_melts_49 (by decide) ?_
        refine lv_istore_n (lv' := [(3, .int 0), (0, .ref (ad G 723)), (1, .int (nI f_20)), (2, .int (nI f_30))]) hx hb dX8_melts_50 rfl hl (by decide) rfl (fun ls_64 hl_65 => ?_)
        refine lv_iload_n hx hb dX8_melts_51 rfl (lv_at hl_65 0 rfl) ?_
        refine lv_iconst (v := 4) hx hb dX8_melts_52 (by decide) ?_
        refine lv_icmp_ge (tgt := 79) hx hb dX8_melts_53 (by decide) (fun h9 => absurd h9 (by decide)) (fun _ => ?_)
        refine lv_aload_n hx hb dX8_melts_56 rfl (lv_at hl_65 1 rfl) ?_
        refine gM_part C hW_60 (hwc hwX8) (mc qw_1485) dX8_melts_57 ?_
        refine lv_iload_n hx hb dX8_melts_60 rfl (lv_at hl_65 0 rfl) ?_
        refine lv_aload_n hx hb dX8_melts_61 rfl (lv_at hl_65 1 rfl) ?_
        refine gM_v C hW_60 (hwc hwX8) (mc qw_1481) dX8_melts_62 ?_
        refine lv_iload_n hx hb dX8_melts_65 rfl (lv_at hl_65 2 rfl) ?_
        refine g_calli (va_runS (As := [.int (nI f_20)]) (rest := [.ref (ad G 724), .int 0, .ref (ad G 728)]) C.1 (cX8_ingot_ok l G (setRow (setRow (setRow X 15 (X.1 15)) 16 (X.1 16)) 20 (X.1 20)) (nI f_20)) (va_cwS 1 C.1.2.2.2.2 (gS qw_1678 qw_1679 qw_81 qw_1680) rfl rfl rfl (by decide +kernel) ⟨Nat.le_of_ble_eq_true rfl, Nat.le_of_ble_eq_true rfl⟩) (g_pre C hW_60 hS_61 [.int (nI f_20)]) rfl rfl hl_65.1 rfl (lv_room (Nat.le_of_ble_eq_true rfl)) dX8_melts_66 ⟨Nat.zero_le _, Nat.zero_le _⟩) hS_61 (fun r_67 Y_68 H_69 locs_70 hW_71 hS_72 h_66 => ?_)
        obtain ⟨h_66, hy_73⟩ := h_66
        replace hy_73 := hy_73.symm
        subst hy_73
        replace h_66 : r_67 = oM_ingot (nI f_20) := h_66
        subst h_66
        refine g_top (y := nI (80 + 4 * f_20)) (at_ingot f_20) ?_
        refine lv_iload_n hx hb dX8_melts_69 rfl (lv_at hl_65 0 rfl) ?_
        refine lv_iadd hx hb dX8_melts_70 ?_
        refine g_top (y := (nI (80 + 4 * f_20))) (Int32.add_zero _) ?_
        refine gm_vld C hW_71 (80 + 4 * f_20) (nI_clamp (by omega)) (vp_in_nI (show 80 + 4 * f_20 < 128 by omega) (by decide)) dX8_melts_71 ?_
        refine g_top (y := X.1 16 (80 + 4 * f_20)) (congrFun (rd_in (by decide) rd_out) _) ?_
        refine gm_partst C hW_71 hS_72 0 (by decide) (vlit (by decide)) dX8_melts_72 (fun H_74 locs_75 hW_76 hS_77 => ?_)
        obtain ⟨w_78, ew_78⟩ : ∃ Z9, Z9 = upd (X.1 20) (0) (X.1 16 (80 + 4 * f_20)) := ⟨_, rfl⟩
        have hW_79 : Wd G (setRow (setRow (setRow X 15 (X.1 15)) 16 (X.1 16)) 20 w_78) H_74 := Wd.cast (by rw [ew_78]; exact st_out) hW_76
        refine lv_iinc (v := 1) (lv' := [(3, .int 1), (0, .ref (ad G 723)), (1, .int (nI f_20)), (2, .int (nI f_30))]) hx hb dX8_melts_73 hl_65 (k := 0) rfl (by decide) (by decide) rfl (fun ls_80 hl_81 => ?_)
        refine lv_goto (tgt := 51) hx hb dX8_melts_76 (by decide) ?_
        refine lv_iload_n hx hb dX8_melts_51 rfl (lv_at hl_81 0 rfl) ?_
        refine lv_iconst (v := 4) hx hb dX8_melts_52 (by decide) ?_
        refine lv_icmp_ge (tgt := 79) hx hb dX8_melts_53 (by decide) (fun h9 => absurd h9 (by decide)) (fun _ => ?_)
        refine lv_aload_n hx hb dX8_melts_56 rfl (lv_at hl_81 1 rfl) ?_
        refine gM_part C hW_79 (hwc hwX8) (mc qw_1485) dX8_melts_57 ?_
        refine lv_iload_n hx hb dX8_melts_60 rfl (lv_at hl_81 0 rfl) ?_
        refine lv_aload_n hx hb dX8_melts_61 rfl (lv_at hl_81 1 rfl) ?_
        refine gM_v C hW_79 (hwc hwX8) (mc qw_1481) dX8_melts_62 ?_
        refine lv_iload_n hx hb dX8_melts_65 rfl (lv_at hl_81 2 rfl) ?_
        refine g_calli (va_runS (As := [.int (nI f_20)]) (rest := [.ref (ad G 724), .int 1, .ref (ad G 728)]) C.1 (cX8_ingot_ok l G (setRow (setRow (setRow X 15 (X.1 15)) 16 (X.1 16)) 20 w_78) (nI f_20)) (va_cwS 1 C.1.2.2.2.2 (gS qw_1678 qw_1679 qw_81 qw_1680) rfl rfl rfl (by decide +kernel) ⟨Nat.le_of_ble_eq_true rfl, Nat.le_of_ble_eq_true rfl⟩) (g_pre C hW_79 hS_77 [.int (nI f_20)]) rfl rfl hl_81.1 rfl (lv_room (Nat.le_of_ble_eq_true rfl)) dX8_melts_66 ⟨Nat.zero_le _, Nat.zero_le _⟩) hS_77 (fun r_83 Y_84 H_85 locs_86 hW_87 hS_88 h_82 => ?_)
        obtain ⟨h_82, hy_89⟩ := h_82
        replace hy_89 := hy_89.symm
        subst hy_89
        replace h_82 : r_83 = oM_ingot (nI f_20) := h_82
        subst h_82
        refine g_top (y := nI (80 + 4 * f_20)) (at_ingot f_20) ?_
        refine lv_iload_n hx hb dX8_melts_69 rfl (lv_at hl_81 0 rfl) ?_
        refine lv_iadd hx hb dX8_melts_70 ?_
        refine g_top (y := nI ((80 + 4 * f_20) + 1)) (nI_add (80 + 4 * f_20) 1) ?_
        refine gm_vld C hW_87 ((80 + 4 * f_20) + 1) (nI_clamp (by omega)) (vp_in_nI (show (80 + 4 * f_20) + 1 < 128 by omega) (by decide)) dX8_melts_71 ?_
        refine g_top (y := X.1 16 ((80 + 4 * f_20) + 1)) (congrFun (rd_in (by decide) rd_out) _) ?_
        refine gm_partst C hW_87 hS_88 1 (by decide) (vlit (by decide)) dX8_melts_72 (fun H_90 locs_91 hW_92 hS_93 => ?_)
        obtain ⟨w_94, ew_94⟩ : ∃ Z9, Z9 = upd w_78 (1) (X.1 16 ((80 + 4 * f_20) + 1)) := ⟨_, rfl⟩
        have hW_95 : Wd G (setRow (setRow (setRow X 15 (X.1 15)) 16 (X.1 16)) 20 w_94) H_90 := Wd.cast (by rw [ew_94]; exact st_out) hW_92
        refine lv_iinc (v := 2) (lv' := [(3, .int 2), (0, .ref (ad G 723)), (1, .int (nI f_20)), (2, .int (nI f_30))]) hx hb dX8_melts_73 hl_81 (k := 0) rfl (by decide) (by decide) rfl (fun ls_96 hl_97 => ?_)
        refine lv_goto (tgt := 51) hx hb dX8_melts_76 (by decide) ?_
        refine lv_iload_n hx hb dX8_melts_51 rfl (lv_at hl_97 0 rfl) ?_
        refine lv_iconst (v := 4) hx hb dX8_melts_52 (by decide) ?_
        refine lv_icmp_ge (tgt := 79) hx hb dX8_melts_53 (by decide) (fun h9 => absurd h9 (by decide)) (fun _ => ?_)
        refine lv_aload_n hx hb dX8_melts_56 rfl (lv_at hl_97 1 rfl) ?_
        refine gM_part C hW_95 (hwc hwX8) (mc qw_1485) dX8_melts_57 ?_
        refine lv_iload_n hx hb dX8_melts_60 rfl (lv_at hl_97 0 rfl) ?_
        refine lv_aload_n hx hb dX8_melts_61 rfl (lv_at hl_97 1 rfl) ?_
        refine gM_v C hW_95 (hwc hwX8) (mc qw_1481) dX8_melts_62 ?_
        refine lv_iload_n hx hb dX8_melts_65 rfl (lv_at hl_97 2 rfl) ?_
        refine g_calli (va_runS (As := [.int (nI f_20)]) (rest := [.ref (ad G 724), .int 2, .ref (ad G 728)]) C.1 (cX8_ingot_ok l G (setRow (setRow (setRow X 15 (X.1 15)) 16 (X.1 16)) 20 w_94) (nI f_20)) (va_cwS 1 C.1.2.2.2.2 (gS qw_1678 qw_1679 qw_81 qw_1680) rfl rfl rfl (by decide +kernel) ⟨Nat.le_of_ble_eq_true rfl, Nat.le_of_ble_eq_true rfl⟩) (g_pre C hW_95 hS_93 [.int (nI f_20)]) rfl rfl hl_97.1 rfl (lv_room (Nat.le_of_ble_eq_true rfl)) dX8_melts_66 ⟨Nat.zero_le _, Nat.zero_le _⟩) hS_93 (fun r_99 Y_100 H_101 locs_102 hW_103 hS_104 h_98 => ?_)
        obtain ⟨h_98, hy_105⟩ := h_98
        replace hy_105 := hy_105.symm
        subst hy_105
        replace h_98 : r_99 = oM_ingot (nI f_20) := h_98
        subst h_98
        refine g_top (y := nI (80 + 4 * f_20)) (at_ingot f_20) ?_
        refine lv_iload_n hx hb dX8_melts_69 rfl (lv_at hl_97 0 rfl) ?_
        refine lv_iadd hx hb dX8_melts_70 ?_
        refine g_top (y := nI ((80 + 4 * f_20) + 2)) (nI_add (80 + 4 * f_20) 2) ?_
        refine gm_vld C hW_103 ((80 + 4 * f_20) + 2) (nI_clamp (by omega)) (vp_in_nI (show (80 + 4 * f_20) + 2 < 128 by omega) (by decide)) dX8_melts_71 ?_
        refine g_top (y := X.1 16 ((80 + 4 * f_20) + 2)) (congrFun (rd_in (by decide) rd_out) _) ?_
        refine gm_partst C hW_103 hS_104 2 (by decide) (vlit (by decide)) dX8_melts_72 (fun H_106 locs_107 hW_108 hS_109 => ?_)
        obtain ⟨w_110, ew_110⟩ : ∃ Z9, Z9 = upd w_94 (2) (X.1 16 ((80 + 4 * f_20) + 2)) := ⟨_, rfl⟩
        have hW_111 : Wd G (setRow (setRow (setRow X 15 (X.1 15)) 16 (X.1 16)) 20 w_110) H_106 := Wd.cast (by rw [ew_110]; exact st_out) hW_108
        refine lv_iinc (v := 3) (lv' := [(3, .int 3), (0, .ref (ad G 723)), (1, .int (nI f_20)), (2, .int (nI f_30))]) hx hb dX8_melts_73 hl_97 (k := 0) rfl (by decide) (by decide) rfl (fun ls_112 hl_113 => ?_)
        refine lv_goto (tgt := 51) hx hb dX8_melts_76 (by decide) ?_
        refine lv_iload_n hx hb dX8_melts_51 rfl (lv_at hl_113 0 rfl) ?_
        refine lv_iconst (v := 4) hx hb dX8_melts_52 (by decide) ?_
        refine lv_icmp_ge (tgt := 79) hx hb dX8_melts_53 (by decide) (fun h9 => absurd h9 (by decide)) (fun _ => ?_)
        refine lv_aload_n hx hb dX8_melts_56 rfl (lv_at hl_113 1 rfl) ?_
        refine gM_part C hW_111 (hwc hwX8) (mc qw_1485) dX8_melts_57 ?_
        refine lv_iload_n hx hb dX8_melts_60 rfl (lv_at hl_113 0 rfl) ?_
        refine lv_aload_n hx hb dX8_melts_61 rfl (lv_at hl_113 1 rfl) ?_
        refine gM_v C hW_111 (hwc hwX8) (mc qw_1481) dX8_melts_62 ?_
        refine lv_iload_n hx hb dX8_melts_65 rfl (lv_at hl_113 2 rfl) ?_
        refine g_calli (va_runS (As := [.int (nI f_20)]) (rest := [.ref (ad G 724), .int 3, .ref (ad G 728)]) C.1 (cX8_ingot_ok l G (setRow (setRow (setRow X 15 (X.1 15)) 16 (X.1 16)) 20 w_110) (nI f_20)) (va_cwS 1 C.1.2.2.2.2 (gS qw_1678 qw_1679 qw_81 qw_1680) rfl rfl rfl (by decide +kernel) ⟨Nat.le_of_ble_eq_true rfl, Nat.le_of_ble_eq_true rfl⟩) (g_pre C hW_111 hS_109 [.int (nI f_20)]) rfl rfl hl_113.1 rfl (lv_room (Nat.le_of_ble_eq_true rfl)) dX8_melts_66 ⟨Nat.zero_le _, Nat.zero_le _⟩) hS_109 (fun r_115 Y_116 H_117 locs_118 hW_119 hS_120 h_114 => ?_)
        obtain ⟨h_114, hy_121⟩ := h_114
        replace hy_121 := hy_121.symm
        subst hy_121
        replace h_114 : r_115 = oM_ingot (nI f_20) := h_114
        subst h_114
        refine g_top (y := nI (80 + 4 * f_20)) (at_ingot f_20) ?_
        refine lv_iload_n hx hb dX8_melts_69 rfl (lv_at hl_113 0 rfl) ?_
        refine lv_iadd hx hb dX8_melts_70 ?_
        refine g_top (y := nI ((80 + 4 * f_20) + 3)) (nI_add (80 + 4 * f_20) 3) ?_
        refine gm_vld C hW_119 ((80 + 4 * f_20) + 3) (nI_clamp (by omega)) (vp_in_nI (show (80 + 4 * f_20) + 3 < 128 by omega) (by decide)) dX8_melts_71 ?_
        refine g_top (y := X.1 16 ((80 + 4 * f_20) + 3)) (congrFun (rd_in (by decide) rd_out) _) ?_
        refine gm_partst C hW_119 hS_120 3 (by decide) (vlit (by decide)) dX8_melts_72 (fun H_122 locs_123 hW_124 hS_125 => ?_)
        obtain ⟨w_126, ew_126⟩ : ∃ Z9, Z9 = upd w_110 (3) (X.1 16 ((80 + 4 * f_20) + 3)) := ⟨_, rfl⟩
        have hW_127 : Wd G (setRow (setRow (setRow X 15 (X.1 15)) 16 (X.1 16)) 20 w_126) H_122 := Wd.cast (by rw [ew_126]; exact st_out) hW_124
        refine lv_iinc (v := 4) (lv' := [(3, .int 4), (0, .ref (ad G 723)), (1, .int (nI f_20)), (2, .int (nI f_30))]) hx hb dX8_melts_73 hl_113 (k := 0) rfl (by decide) (by decide) rfl (fun ls_128 hl_129 => ?_)
        refine lv_goto (tgt := 51) hx hb dX8_melts_76 (by decide) ?_
        refine lv_iload_n hx hb dX8_melts_51 rfl (lv_at hl_129 0 rfl) ?_
        refine lv_iconst (v := 4) hx hb dX8_melts_52 (by decide) ?_
        refine lv_icmp_ge (tgt := 79) hx hb dX8_melts_53 (by decide) (fun _ => ?_) (fun h9 => absurd h9 (by decide))
        refine lv_iload_n hx hb dX8_melts_79 rfl (lv_at hl_129 2 rfl) ?_
        refine g_calli (va_runS (As := [.int (nI f_20)]) (rest := []) C.1 (cX8_ingot_ok l G (setRow (setRow (setRow X 15 (X.1 15)) 16 (X.1 16)) 20 w_126) (nI f_20)) (va_cwS 1 C.1.2.2.2.2 (gS qw_1678 qw_1679 qw_81 qw_1680) rfl rfl rfl (by decide +kernel) ⟨Nat.le_of_ble_eq_true rfl, Nat.le_of_ble_eq_true rfl⟩) (g_pre C hW_127 hS_125 [.int (nI f_20)]) rfl rfl hl_129.1 rfl (lv_room (Nat.le_of_ble_eq_true rfl)) dX8_melts_80 ⟨Nat.zero_le _, Nat.zero_le _⟩) hS_125 (fun r_131 Y_132 H_133 locs_134 hW_135 hS_136 h_130 => ?_)
        obtain ⟨h_130, hy_137⟩ := h_130
        replace hy_137 := hy_137.symm
        subst hy_137
        replace h_130 : r_131 = oM_ingot (nI f_20) := h_130
        subst h_130
        refine g_top (y := nI (80 + 4 * f_20)) (at_ingot f_20) ?_
        refine lv_istore_n (lv' := [(3, .int (nI (80 + 4 * f_20))), (0, .ref (ad G 723)), (1, .int (nI f_20)), (2, .int (nI f_30))]) hx hb dX8_melts_83 rfl hl_129 (by decide) rfl (fun ls_138 hl_139 => ?_)
        have loop : ∀ (q : Nat) (kk : Nat) (zz pp : Nat → Int32) (H : Heap) (locs : List Loc) (ls : Array Slot), 80 + 4 * f_20 ≤ kk → kk + q = 128 → zz = shG (X.1 16) (80 + 4 * f_20) kk → pp = mpR (X.1 20) (X.1 16) (80 + 4 * f_20) → Wd G (setRow (setRow (setRow X 15 (X.1 15)) 16 zz) 20 pp) H → va_S (Ab G) s.heap H locs → lv_has ls 4 [(3, .int (nI kk)), (0, .ref (ad G 723)), (1, .int (nI f_20)), (2, .int (nI f_30))] → W p l e (rmz 2 47) s m ([.ref (ad G 723), .int (nI f_20), .int (nI f_30)] : List Value).toArray below meth c H locs 0 0 (MQ below (Ki G (fun res Y => res = (oM_melts (X.1 15) (X.1 16) (X.1 20) (nI f_20) (nI f_30)).1 ∧ Y = setRow (setRow (setRow (X) 15 ((oM_melts (X.1 15) (X.1 16) (X.1 20) (nI f_20) (nI f_30)).2.1)) 16 ((oM_melts (X.1 15) (X.1 16) (X.1 20) (nI f_20) (nI f_30)).2.2.1)) 20 ((oM_melts (X.1 15) (X.1 16) (X.1 20) (nI f_20) (nI f_30)).2.2.2))) ([.ref (ad G 723), .int (nI f_20), .int (nI f_30)] : List Value).toArray s 0 0 (Ab G)) (F0 m 84 ls []) := by
          intro q
          induction q with
          | zero =>
            intro kk zz pp H locs ls hk hq hz hp hW hS hl
            have hkk : kk = 128 := by omega
            refine lv_iload_n hx hb dX8_melts_84 rfl (lv_at hl 0 rfl) ?_
            refine lv_sipush (v := 128) hx hb dX8_melts_85 (by decide) ?_
            refine lv_icmp_ge (tgt := 124) hx hb dX8_melts_88 (by decide) (fun _ => ?_) (fun h9 => absurd (nI_le (a := 128) (b := kk) (by omega) (by omega)) h9)
            refine lv_aload_n hx hb dX8_melts_124 rfl (lv_at hl 1 rfl) ?_
            refine gM_v C hW (hwc hwX8) (mc qw_1481) dX8_melts_125 ?_
            refine lv_bipush (v := 43) hx hb dX8_melts_128 (by decide) ?_
            refine lv_dup2_11 hx hb dX8_melts_130 rfl rfl ?_
            refine gm_vld C hW 43 (by decide) (vlit (by decide)) dX8_melts_131 ?_
            refine g_top (y := zz (43)) (congrFun (rd_in (by decide) rd_out) _) ?_
            refine lv_iconst (v := 1) hx hb dX8_melts_132 (by decide) ?_
            refine lv_isub hx hb dX8_melts_133 ?_
            refine gm_vst C hW hS 43 (by decide) (vlit (by decide)) dX8_melts_134 (fun H_140 locs_141 hW_142 hS_143 => ?_)
            obtain ⟨w_144, ew_144⟩ : ∃ Z9, Z9 = upd zz (43) ((zz (43)) - 1) := ⟨_, rfl⟩
            have hW_145 : Wd G (setRow (setRow (setRow X 15 (X.1 15)) 16 w_144) 20 pp) H_140 := Wd.cast (by rw [ew_144]; exact (st_in (by decide) st_out)) hW_142
            refine lv_aload_n hx hb dX8_melts_135 rfl (lv_at hl 1 rfl) ?_
            refine lv_iload_n hx hb dX8_melts_136 rfl (lv_at hl 3 rfl) ?_
            refine lv_bipush (v := 20) hx hb dX8_melts_137 (by decide) ?_
            refine g_calli (va_runV (As := [.int (nI f_30), .int 20]) (rest := []) C.1 (cX8_feeds_ok l G (setRow (setRow (setRow X 15 (X.1 15)) 16 w_144) 20 pp) f_30 20 (show f_30 < 3 by omega) (nz_melt (hm.1 f_30 (by omega)) (hii f_20 (by omega)) (fun j hj => by rw [ew_144]; exact (pk_un (by omega)).trans (by rw [hz]; exact if_neg (by omega))) hp)) (cwV 2 C.1.2.2.2.2 (gV qw_1579 qw_1581 qw_33 qw_81 qw_1582) rfl rfl rfl (by decide +kernel) ⟨Nat.le_of_ble_eq_true rfl, Nat.le_of_ble_eq_true rfl⟩) (g_rModel C hW_145 hS_143 [.int (nI f_30), .int 20]) rfl rfl hl.1 rfl (lv_room (Nat.le_of_ble_eq_true rfl)) dX8_melts_139 ⟨Nat.zero_le _, Nat.zero_le _⟩) hS_143 (fun r_147 Y_148 H_149 locs_150 hW_151 hS_152 h_146 => ?_)
            obtain ⟨h_153, h_146⟩ := h_146
            replace h_153 : r_147 = (oM_feeds w_144 pp f_30 20).1 := h_153
            subst h_153
            replace h_146 : Y_148 = setRow (setRow (setRow (setRow X 15 (X.1 15)) 16 w_144) 20 pp) 16 ((oM_feeds w_144 pp f_30 20).2) := h_146
            obtain ⟨w_154, ew_154⟩ : ∃ Z9, Z9 = (oM_feeds w_144 pp f_30 20).2 := ⟨_, rfl⟩
            have qqw_154 : Y_148 = setRow (setRow (setRow (setRow X 15 (X.1 15)) 16 w_144) 20 pp) 16 w_154 := by rw [h_146, ew_154]
            have hW_155 : Wd G (setRow (setRow (setRow X 15 (X.1 15)) 16 w_154) 20 pp) H_149 := Wd.cast ((qqw_154).trans (congrArg (fun Z9 => Z9) (sr_in (by decide) sr_out))) hW_151
            exact g_iret C hr hlk hW_155 hS_152 dX8_melts_142 (by subst hkk; subst ew_154; subst ew_144; subst hz; subst hp; exact ⟨(by simp only [oM_melts, em, ei, clf (show km < 2 ^ 31 by omega), clf (show ki < 2 ^ 31 by omega), clf (show f_20 < 2 ^ 31 by omega), clf (show f_30 < 2 ^ 31 by omega), b_9, b_29, b_63, if_true, if_false]; first | done | rfl), (by simp only [oM_melts, em, ei, clf (show km < 2 ^ 31 by omega), clf (show ki < 2 ^ 31 by omega), clf (show f_20 < 2 ^ 31 by omega), clf (show f_30 < 2 ^ 31 by omega), b_9, b_29, b_63, if_true, if_false]; first | done | rfl)⟩)
          | succ q ih =>
            intro kk zz pp H locs ls hk hq hz hp hW hS hl
            refine lv_iload_n hx hb dX8_melts_84 rfl (lv_at hl 0 rfl) ?_
            refine lv_sipush (v := 128) hx hb dX8_melts_85 (by decide) ?_
            refine lv_icmp_ge (tgt := 124) hx hb dX8_melts_88 (by decide) (fun h9 => absurd h9 (nI_ge (a := kk) (b := 128) (by omega) (by omega))) (fun _ => ?_)
            refine lv_aload_n hx hb dX8_melts_91 rfl (lv_at hl 1 rfl) ?_
            refine gM_v C hW (hwc hwX8) (mc qw_1481) dX8_melts_92 ?_
            refine lv_iload_n hx hb dX8_melts_95 rfl (lv_at hl 0 rfl) ?_
            refine lv_iload_n hx hb dX8_melts_96 rfl (lv_at hl 0 rfl) ?_
            refine lv_iconst (v := 4) hx hb dX8_melts_97 (by decide) ?_
            refine lv_iadd hx hb dX8_melts_98 ?_
            refine g_top (y := nI (kk + 4)) (nI_add kk 4) ?_
            refine lv_sipush (v := 128) hx hb dX8_melts_99 (by decide) ?_
            refine lv_icmp_ge (tgt := 116) hx hb dX8_melts_102 (by decide) (fun b_156 => ?_) (fun b_156 => ?_)
            · have fb_156 : 128 ≤ (kk + 4) := (nI_leI (a := 128) (b := kk + 4) (by omega) (by omega)).mp b_156
              refine lv_iconst (v := 0) hx hb dX8_melts_116 (by decide) ?_
              refine gm_vst C hW hS kk (nI_clamp (by omega)) (vp_in_nI (show kk < 128 by omega) (by decide)) dX8_melts_117 (fun H_157 locs_158 hW_159 hS_160 => ?_)
              obtain ⟨w_161, ew_161⟩ : ∃ Z9, Z9 = upd zz (kk) 0 := ⟨_, rfl⟩
              have kn_162 : w_161 (kk) = 0 := by rw [ew_161]; exact pk_us
              have hW_163 : Wd G (setRow (setRow (setRow X 15 (X.1 15)) 16 w_161) 20 pp) H_157 := Wd.cast (by rw [ew_161]; exact (st_in (by decide) st_out)) hW_159
              refine lv_iinc (v := nI (kk + 1)) (lv' := [(3, .int (nI (kk + 1))), (0, .ref (ad G 723)), (1, .int (nI f_20)), (2, .int (nI f_30))]) hx hb dX8_melts_118 hl (k := 0) rfl (nI_1 kk) (by decide) rfl (fun ls_164 hl_165 => ?_)
              refine lv_goto (tgt := 84) hx hb dX8_melts_121 (by decide) ?_
              exact ih (kk + 1) w_161 pp H_157 locs_158 ls_164 (by omega) (by omega) (by subst ew_161; rw [hz]; exact sh_s2 (by omega) (by omega)) hp hW_163 hS_160 (lv_sub hl_165 [0, 1, 2, 3] rfl)
            · have fb_156 : ¬ 128 ≤ (kk + 4) := fun q9 => b_156 ((nI_leI (a := 128) (b := kk + 4) (by omega) (by omega)).mpr q9)
              refine lv_aload_n hx hb dX8_melts_105 rfl (lv_at hl 1 rfl) ?_
              refine gM_v C hW (hwc hwX8) (mc qw_1481) dX8_melts_106 ?_
              refine lv_iload_n hx hb dX8_melts_109 rfl (lv_at hl 0 rfl) ?_
              refine lv_iconst (v := 4) hx hb dX8_melts_110 (by decide) ?_
              refine lv_iadd hx hb dX8_melts_111 ?_
              refine g_top (y := nI (kk + 4)) (nI_add kk 4) ?_
              refine gm_vld C hW (kk + 4) (nI_clamp (by omega)) (vp_in_nI (show kk + 4 < 128 by omega) (by decide)) dX8_melts_112 ?_
              refine g_top (y := zz (kk + 4)) (congrFun (rd_in (by decide) rd_out) _) ?_
              refine lv_goto (tgt := 117) hx hb dX8_melts_113 (by decide) ?_
              refine gm_vst C hW hS kk (nI_clamp (by omega)) (vp_in_nI (show kk < 128 by omega) (by decide)) dX8_melts_117 (fun H_166 locs_167 hW_168 hS_169 => ?_)
              obtain ⟨w_170, ew_170⟩ : ∃ Z9, Z9 = upd zz (kk) (zz (kk + 4)) := ⟨_, rfl⟩
              have hW_171 : Wd G (setRow (setRow (setRow X 15 (X.1 15)) 16 w_170) 20 pp) H_166 := Wd.cast (by rw [ew_170]; exact (st_in (by decide) st_out)) hW_168
              refine lv_iinc (v := nI (kk + 1)) (lv' := [(3, .int (nI (kk + 1))), (0, .ref (ad G 723)), (1, .int (nI f_20)), (2, .int (nI f_30))]) hx hb dX8_melts_118 hl (k := 0) rfl (nI_1 kk) (by decide) rfl (fun ls_172 hl_173 => ?_)
              refine lv_goto (tgt := 84) hx hb dX8_melts_121 (by decide) ?_
              exact ih (kk + 1) w_170 pp H_166 locs_167 ls_172 (by omega) (by omega) (by subst ew_170; rw [hz]; exact sh_s1 (by omega) (by omega)) hp hW_171 hS_169 (lv_sub hl_173 [0, 1, 2, 3] rfl)
        exact loop (128 - (80 + 4 * f_20)) (80 + 4 * f_20) (X.1 16) w_126 H_133 locs_134 ls_138 (Nat.le_refl _) (by omega) (by subst ew_126; subst ew_110; subst ew_94; subst ew_78; exact sh_0.symm) (by subst ew_126; subst ew_110; subst ew_94; subst ew_78; rfl) hW_135 hS_136 (lv_sub hl_139 [0, 1, 2, 3] rfl)
      · refine lv_aload_n hx hb dX8_melts_43 rfl (lv_at hl 0 rfl) ?_
        refine lv_iconst (v := 2) hx hb dX8_melts_44 (by decide) ?_
        refine g_calli (va_runV (As := [.int 2]) (rest := []) C.1 (cX8_fail_ok l G (setRow (setRow (setRow X 15 (X.1 15)) 16 (X.1 16)) 20 (X.1 20)) 2) (cwV 1 C.1.2.2.2.2 (gV qw_1571 qw_1573 qw_31 qw_81 qw_1574) rfl rfl rfl (by decide +kernel) ⟨Nat.le_of_ble_eq_true rfl, Nat.le_of_ble_eq_true rfl⟩) (g_rModel C hW_60 hS_61 [.int 2]) rfl rfl hl.1 rfl (lv_room (Nat.le_of_ble_eq_true rfl)) dX8_melts_45 ⟨Nat.zero_le _, Nat.zero_le _⟩) hS_61 (fun r_175 Y_176 H_177 locs_178 hW_179 hS_180 h_174 => ?_)
        obtain ⟨h_181, h_174⟩ := h_174
        replace h_181 : r_175 = (oM_fail (X.1 15) 2).1 := h_181
        subst h_181
        replace h_174 : Y_176 = setRow (setRow (setRow (setRow X 15 (X.1 15)) 16 (X.1 16)) 20 (X.1 20)) 15 ((oM_fail (X.1 15) 2).2) := h_174
        obtain ⟨w_182, ew_182⟩ : ∃ Z9, Z9 = (oM_fail (X.1 15) 2).2 := ⟨_, rfl⟩
        have qqw_182 : Y_176 = setRow (setRow (setRow (setRow X 15 (X.1 15)) 16 (X.1 16)) 20 (X.1 20)) 15 w_182 := by rw [h_174, ew_182]
        have hW_183 : Wd G (setRow (setRow (setRow X 15 w_182) 16 (X.1 16)) 20 (X.1 20)) H_177 := Wd.cast ((qqw_182).trans (congrArg (fun Z9 => Z9) (sr_in (by decide) (sr_in (by decide) sr_out)))) hW_179
        exact g_iret C hr hlk hW_183 hS_180 dX8_melts_48 (by subst ew_182; exact ⟨(by simp only [oM_melts, em, ei, clf (show km < 2 ^ 31 by omega), clf (show ki < 2 ^ 31 by omega), clf (show f_20 < 2 ^ 31 by omega), clf (show f_30 < 2 ^ 31 by omega), b_9, b_29, b_63, if_true, if_false]), (by simp only [oM_melts, em, ei, clf (show km < 2 ^ 31 by omega), clf (show ki < 2 ^ 31 by omega), clf (show f_20 < 2 ^ 31 by omega), clf (show f_30 < 2 ^ 31 by omega), b_9, b_29, b_63, if_true, if_false])⟩)
    · refine lv_aload_n hx hb dX8_melts_15 rfl (lv_at hl 0 rfl) ?_
      refine lv_iconst (v := 1) hx hb dX8_melts_16 (by decide) ?_
      refine g_calli (va_runV (As := [.int 1]) (rest := []) C.1 (cX8_fail_ok l G (setRow (setRow (setRow X 15 (X.1 15)) 16 (X.1 16)) 20 (X.1 20)) 1) (cwV 1 C.1.2.2.2.2 (gV qw_1571 qw_1573 qw_31 qw_81 qw_1574) rfl rfl rfl (by decide +kernel) ⟨Nat.le_of_ble_eq_true rfl, Nat.le_of_ble_eq_true rfl⟩) (g_rModel C hW_26 hS_27 [.int 1]) rfl rfl hl.1 rfl (lv_room (Nat.le_of_ble_eq_true rfl)) dX8_melts_17 ⟨Nat.zero_le _, Nat.zero_le _⟩) hS_27 (fun r_185 Y_186 H_187 locs_188 hW_189 hS_190 h_184 => ?_)
      obtain ⟨h_191, h_184⟩ := h_184
      replace h_191 : r_185 = (oM_fail (X.1 15) 1).1 := h_191
      subst h_191
      replace h_184 : Y_186 = setRow (setRow (setRow (setRow X 15 (X.1 15)) 16 (X.1 16)) 20 (X.1 20)) 15 ((oM_fail (X.1 15) 1).2) := h_184
      obtain ⟨w_192, ew_192⟩ : ∃ Z9, Z9 = (oM_fail (X.1 15) 1).2 := ⟨_, rfl⟩
      have qqw_192 : Y_186 = setRow (setRow (setRow (setRow X 15 (X.1 15)) 16 (X.1 16)) 20 (X.1 20)) 15 w_192 := by rw [h_184, ew_192]
      have hW_193 : Wd G (setRow (setRow (setRow X 15 w_192) 16 (X.1 16)) 20 (X.1 20)) H_187 := Wd.cast ((qqw_192).trans (congrArg (fun Z9 => Z9) (sr_in (by decide) (sr_in (by decide) sr_out)))) hW_189
      exact g_iret C hr hlk hW_193 hS_190 dX8_melts_20 (by subst ew_192; exact ⟨(by simp only [oM_melts, em, ei, clf (show km < 2 ^ 31 by omega), clf (show ki < 2 ^ 31 by omega), clf (show f_20 < 2 ^ 31 by omega), b_9, eq_true b_29, if_true, if_false]), (by simp only [oM_melts, em, ei, clf (show km < 2 ^ 31 by omega), clf (show ki < 2 ^ 31 by omega), clf (show f_20 < 2 ^ 31 by omega), b_9, eq_true b_29, if_true, if_false])⟩)

def oM_passes (w15 : Nat → Int32) (w16 : Nat → Int32) (w21 : Nat → Int32) (minutes : Int32) : Int32 × ((Nat → Int32) × (Nat → Int32)) := 
  if oM_isIn minutes 1 200 = 0 then ((oM_fail w15 1).1, (oM_fail w15 1).2, w16)
  else (molM (itMM minutes.toNatClampNeg w16) w21, w15, itMM minutes.toNatClampNeg w16)
set_option maxHeartbeats 4000000 in
set_option maxRecDepth 100000 in
theorem cX8_passes_ok (l : Launch) (G : GT) (X : St) (minutes : Int32) (hm : MInv (X.1 16)) : MetI l G yX8_passes (wsG yX8_passes cX8_passes 4 (some .int)) (rmz 3 65) [.ref (ad G 723), .int minutes] X (fun res Y => res = (oM_passes (X.1 15) (X.1 16) (X.1 21) minutes).1 ∧ Y = setRow (setRow (X) 15 ((oM_passes (X.1 15) (X.1 16) (X.1 21) minutes).2.1)) 16 ((oM_passes (X.1 15) (X.1 16) (X.1 21) minutes).2.2)) := by
  refine g_met (cc := cX8_passes) (maxL := 4) (ret := (some .int)) (by decide) rfl (Nat.le_of_ble_eq_true rfl) ?_
  intro p e s m below meth c ls C hr hlk hnm hW hl
  have hx := C.1.1
  have hb := C.1.2.1
  have hS : va_S (Ab G) s.heap s.heap [] := va_S.rf
  have hl : lv_has ls 4 [(0, .ref (ad G 723)), (1, .int minutes)] := hl
  have hW : Wd G (setRow (setRow (X) 15 (X.1 15)) 16 (X.1 16)) s.heap := Wd.cast (((sr_same (X := setRow (X) 15 (X.1 15)) (r := 16) rfl).trans (sr_same (X := X) (r := 15) rfl))).symm hW
  refine lv_iload_n hx hb dX8_passes_0 rfl (lv_at hl 1 rfl) ?_
  refine lv_iconst (v := 1) hx hb dX8_passes_1 (by decide) ?_
  refine lv_sipush (v := 200) hx hb dX8_passes_2 (by decide) ?_
  refine g_calli (va_runS (As := [.int minutes, .int 1, .int 200]) (rest := []) C.1 (cX8_isIn_ok l G (setRow (setRow X 15 (X.1 15)) 16 (X.1 16)) minutes 1 200) (va_cwS 3 C.1.2.2.2.2 (gS qw_1568 qw_1569 qw_81 qw_1570) rfl rfl rfl (by decide +kernel) ⟨Nat.le_of_ble_eq_true rfl, Nat.le_of_ble_eq_true rfl⟩) (g_pre C hW hS [.int minutes, .int 1, .int 200]) rfl rfl hl.1 rfl (lv_room (Nat.le_of_ble_eq_true rfl)) dX8_passes_5 ⟨Nat.zero_le _, Nat.zero_le _⟩) hS (fun r_2 Y_3 H_4 locs_5 hW_6 hS_7 h_1 => ?_)
  obtain ⟨h_1, hy_8⟩ := h_1
  replace hy_8 := hy_8.symm
  subst hy_8
  replace h_1 : r_2 = oM_isIn minutes 1 200 := h_1
  subst h_1
  refine lv_if_ne (tgt := 17) hx hb dX8_passes_8 (by decide) (fun b_9 => ?_) (fun b_9 => ?_)
  · obtain ⟨dd, hdd1, hdd2, rfl⟩ := isIn_nat (a := 1) (b := 200) (by decide) (by decide) b_9
    refine lv_iconst (v := 0) hx hb dX8_passes_17 (by decide) ?_
    refine lv_istore_n (lv' := [(2, .int 0), (0, .ref (ad G 723)), (1, .int (nI dd))]) hx hb dX8_passes_18 rfl hl (by decide) rfl (fun ls_10 hl_11 => ?_)
    have loop : ∀ (q : Nat) (kk : Nat) (zz : Nat → Int32) (H : Heap) (locs : List Loc) (ls : Array Slot), kk + q = dd → itMM q zz = itMM dd (X.1 16) → Wd G (setRow (setRow X 15 (X.1 15)) 16 zz) H → va_S (Ab G) s.heap H locs → lv_has ls 4 [(2, .int (nI kk)), (0, .ref (ad G 723)), (1, .int (nI dd))] → W p l e (rmz 3 65) s m ([.ref (ad G 723), .int (nI dd)] : List Value).toArray below meth c H locs 0 0 (MQ below (Ki G (fun res Y => res = (oM_passes (X.1 15) (X.1 16) (X.1 21) (nI dd)).1 ∧ Y = setRow (setRow (X) 15 ((oM_passes (X.1 15) (X.1 16) (X.1 21) (nI dd)).2.1)) 16 ((oM_passes (X.1 15) (X.1 16) (X.1 21) (nI dd)).2.2))) ([.ref (ad G 723), .int (nI dd)] : List Value).toArray s 0 0 (Ab G)) (F0 m 19 ls []) := by
      intro q
      induction q with
      | zero =>
        intro kk zz H locs ls hq hf hW hS hl
        have hz : zz = itMM dd (X.1 16) := hf
        clear hf
        refine lv_iload_n hx hb dX8_passes_19 rfl (lv_at hl 0 rfl) ?_
        refine lv_iload_n hx hb dX8_passes_20 rfl (lv_at hl 2 rfl) ?_
        refine lv_icmp_ge (tgt := 147) hx hb dX8_passes_21 (by decide) (fun _ => ?_) (fun h9 => absurd (nI_le (a := dd) (b := kk) (by omega) (by omega)) h9)
        refine lv_iconst (v := 0) hx hb dX8_passes_147 (by decide) ?_
        refine lv_istore_n (lv' := [(2, .int 0), (0, .ref (ad G 723)), (1, .int (nI dd))]) hx hb dX8_passes_148 rfl hl (by decide) rfl (fun ls_12 hl_13 => ?_)
        refine lv_iconst (v := 0) hx hb dX8_passes_149 (by decide) ?_
        refine lv_istore_n (lv' := [(3, .int 0), (2, .int 0), (0, .ref (ad G 723)), (1, .int (nI dd))]) hx hb dX8_passes_150 rfl hl_13 (by decide) rfl (fun ls_14 hl_15 => ?_)
        refine lv_iload_n hx hb dX8_passes_151 rfl (lv_at hl_15 0 rfl) ?_
        refine lv_iconst (v := 3) hx hb dX8_passes_152 (by decide) ?_
        refine lv_icmp_ge (tgt := 181) hx hb dX8_passes_153 (by decide) (fun h9 => absurd h9 (by decide)) (fun _ => ?_)
        refine lv_iload_n hx hb dX8_passes_156 rfl (lv_at hl_15 1 rfl) ?_
        refine lv_aload_n hx hb dX8_passes_157 rfl (lv_at hl_15 2 rfl) ?_
        refine lv_iload_n hx hb dX8_passes_158 rfl (lv_at hl_15 0 rfl) ?_
        refine g_calli (va_runS (As := [.int 0]) (rest := [.ref (ad G 723), .int 0]) C.1 (cX8_furnace_ok l G (setRow (setRow X 15 (X.1 15)) 16 zz) 0) (va_cwS 1 C.1.2.2.2.2 (gS qw_1470 qw_1471 qw_81 qw_1472) rfl rfl rfl (by decide +kernel) ⟨Nat.le_of_ble_eq_true rfl, Nat.le_of_ble_eq_true rfl⟩) (g_pre C hW hS [.int 0]) rfl rfl hl_15.1 rfl (lv_room (Nat.le_of_ble_eq_true rfl)) dX8_passes_159 ⟨Nat.zero_le _, Nat.zero_le _⟩) hS (fun r_17 Y_18 H_19 locs_20 hW_21 hS_22 h_16 => ?_)
        obtain ⟨h_16, hy_23⟩ := h_16
        replace hy_23 := hy_23.symm
        subst hy_23
        replace h_16 : r_17 = oM_furnace 0 := h_16
        subst h_16
        refine g_top (y := nI (9 + 6 * 0)) (at_furnace 0) ?_
        refine g_calli (va_runV (As := [.int (nI (9 + 6 * 0))]) (rest := [.int 0]) C.1 (cX8_isFluid_ok l G (setRow (setRow X 15 (X.1 15)) 16 zz) (9 + 6 * 0) (show 9 + 6 * 0 + 5 ≤ 128 by omega)) (cwV 1 C.1.2.2.2.2 (gV qw_1611 qw_1613 qw_39 qw_81 qw_1614) rfl rfl rfl (by decide +kernel) ⟨Nat.le_of_ble_eq_true rfl, Nat.le_of_ble_eq_true rfl⟩) (g_rModel C hW_21 hS_22 [.int (nI (9 + 6 * 0))]) rfl rfl hl_15.1 rfl (lv_room (Nat.le_of_ble_eq_true rfl)) dX8_passes_162 ⟨Nat.zero_le _, Nat.zero_le _⟩) hS_22 (fun r_25 Y_26 H_27 locs_28 hW_29 hS_30 h_24 => ?_)
        obtain ⟨h_24, hy_31⟩ := h_24
        replace hy_31 := hy_31.symm
        subst hy_31
        replace h_24 : r_25 = oM_isFluid zz (X.1 21) (9 + 6 * 0) := h_24
        subst h_24
        refine lv_if_eq (tgt := 172) hx hb dX8_passes_165 (by decide) (fun b_32 => ?_) (fun b_32 => ?_)
        · refine lv_iconst (v := 0) hx hb dX8_passes_172 (by decide) ?_
          refine lv_iadd hx hb dX8_passes_173 ?_
          refine g_top (y := 0) (by decide) ?_
          refine lv_istore_n (lv' := [(2, .int 0), (3, .int 0), (0, .ref (ad G 723)), (1, .int (nI dd))]) hx hb dX8_passes_174 rfl hl_15 (by decide) rfl (fun ls_33 hl_34 => ?_)
          refine lv_iinc (v := 1) (lv' := [(3, .int 1), (2, .int 0), (0, .ref (ad G 723)), (1, .int (nI dd))]) hx hb dX8_passes_175 hl_34 (k := 1) rfl (by decide) (by decide) rfl (fun ls_35 hl_36 => ?_)
          refine lv_goto (tgt := 151) hx hb dX8_passes_178 (by decide) ?_
          refine lv_iload_n hx hb dX8_passes_151 rfl (lv_at hl_36 0 rfl) ?_
          refine lv_iconst (v := 3) hx hb dX8_passes_152 (by decide) ?_
          refine lv_icmp_ge (tgt := 181) hx hb dX8_passes_153 (by decide) (fun h9 => absurd h9 (by decide)) (fun _ => ?_)
          refine lv_iload_n hx hb dX8_passes_156 rfl (lv_at hl_36 1 rfl) ?_
          refine lv_aload_n hx hb dX8_passes_157 rfl (lv_at hl_36 2 rfl) ?_
          refine lv_iload_n hx hb dX8_passes_158 rfl (lv_at hl_36 0 rfl) ?_
          refine g_calli (va_runS (As := [.int 1]) (rest := [.ref (ad G 723), .int 0]) C.1 (cX8_furnace_ok l G (setRow (setRow X 15 (X.1 15)) 16 zz) 1) (va_cwS 1 C.1.2.2.2.2 (gS qw_1470 qw_1471 qw_81 qw_1472) rfl rfl rfl (by decide +kernel) ⟨Nat.le_of_ble_eq_true rfl, Nat.le_of_ble_eq_true rfl⟩) (g_pre C hW_29 hS_30 [.int 1]) rfl rfl hl_36.1 rfl (lv_room (Nat.le_of_ble_eq_true rfl)) dX8_passes_159 ⟨Nat.zero_le _, Nat.zero_le _⟩) hS_30 (fun r_38 Y_39 H_40 locs_41 hW_42 hS_43 h_37 => ?_)
          obtain ⟨h_37, hy_44⟩ := h_37
          replace hy_44 := hy_44.symm
          subst hy_44
          replace h_37 : r_38 = oM_furnace 1 := h_37
          subst h_37
          refine g_top (y := nI (9 + 6 * 1)) (at_furnace 1) ?_
          refine g_calli (va_runV (As := [.int (nI (9 + 6 * 1))]) (rest := [.int 0]) C.1 (cX8_isFluid_ok l G (setRow (setRow X 15 (X.1 15)) 16 zz) (9 + 6 * 1) (show 9 + 6 * 1 + 5 ≤ 128 by omega)) (cwV 1 C.1.2.2.2.2 (gV qw_1611 qw_1613 qw_39 qw_81 qw_1614) rfl rfl rfl (by decide +kernel) ⟨Nat.le_of_ble_eq_true rfl, Nat.le_of_ble_eq_true rfl⟩) (g_rModel C hW_42 hS_43 [.int (nI (9 + 6 * 1))]) rfl rfl hl_36.1 rfl (lv_room (Nat.le_of_ble_eq_true rfl)) dX8_passes_162 ⟨Nat.zero_le _, Nat.zero_le _⟩) hS_43 (fun r_46 Y_47 H_48 locs_49 hW_50 hS_51 h_45 => ?_)
          obtain ⟨h_45, hy_52⟩ := h_45
          replace hy_52 := hy_52.symm
          subst hy_52
          replace h_45 : r_46 = oM_isFluid zz (X.1 21) (9 + 6 * 1) := h_45
          subst h_45
          refine lv_if_eq (tgt := 172) hx hb dX8_passes_165 (by decide) (fun b_53 => ?_) (fun b_53 => ?_)
          · refine lv_iconst (v := 0) hx hb dX8_passes_172 (by decide) ?_
            refine lv_iadd hx hb dX8_passes_173 ?_
            refine g_top (y := 0) (by decide) ?_
            refine lv_istore_n (lv' := [(2, .int 0), (3, .int 1), (0, .ref (ad G 723)), (1, .int (nI dd))]) hx hb dX8_passes_174 rfl hl_36 (by decide) rfl (fun ls_54 hl_55 => ?_)
            refine lv_iinc (v := 2) (lv' := [(3, .int 2), (2, .int 0), (0, .ref (ad G 723)), (1, .int (nI dd))]) hx hb dX8_passes_175 hl_55 (k := 1) rfl (by decide) (by decide) rfl (fun ls_56 hl_57 => ?_)
            refine lv_goto (tgt := 151) hx hb dX8_passes_178 (by decide) ?_
            refine lv_iload_n hx hb dX8_passes_151 rfl (lv_at hl_57 0 rfl) ?_
            refine lv_iconst (v := 3) hx hb dX8_passes_152 (by decide) ?_
            refine lv_icmp_ge (tgt := 181) hx hb dX8_passes_153 (by decide) (fun h9 => absurd h9 (by decide)) (fun _ => ?_)
            refine lv_iload_n hx hb dX8_passes_156 rfl (lv_at hl_57 1 rfl) ?_
            refine lv_aload_n hx hb dX8_passes_157 rfl (lv_at hl_57 2 rfl) ?_
            refine lv_iload_n hx hb dX8_passes_158 rfl (lv_at hl_57 0 rfl) ?_
            refine g_calli (va_runS (As := [.int 2]) (rest := [.ref (ad G 723), .int 0]) C.1 (cX8_furnace_ok l G (setRow (setRow X 15 (X.1 15)) 16 zz) 2) (va_cwS 1 C.1.2.2.2.2 (gS qw_1470 qw_1471 qw_81 qw_1472) rfl rfl rfl (by decide +kernel) ⟨Nat.le_of_ble_eq_true rfl, Nat.le_of_ble_eq_true rfl⟩) (g_pre C hW_50 hS_51 [.int 2]) rfl rfl hl_57.1 rfl (lv_room (Nat.le_of_ble_eq_true rfl)) dX8_passes_159 ⟨Nat.zero_le _, Nat.zero_le _⟩) hS_51 (fun r_59 Y_60 H_61 locs_62 hW_63 hS_64 h_58 => ?_)
            obtain ⟨h_58, hy_65⟩ := h_58
            replace hy_65 := hy_65.symm
            subst hy_65
            replace h_58 : r_59 = oM_furnace 2 := h_58
            subst h_58
            refine g_top (y := nI (9 + 6 * 2)) (at_furnace 2) ?_
            refine g_calli (va_runV (As := [.int (nI (9 + 6 * 2))]) (rest := [.int 0]) C.1 (cX8_isFluid_ok l G (setRow (setRow X 15 (X.1 15)) 16 zz) (9 + 6 * 2) (show 9 + 6 * 2 + 5 ≤ 128 by omega)) (cwV 1 C.1.2.2.2.2 (gV qw_1611 qw_1613 qw_39 qw_81 qw_1614) rfl rfl rfl (by decide +kernel) ⟨Nat.le_of_ble_eq_true rfl, Nat.le_of_ble_eq_true rfl⟩) (g_rModel C hW_63 hS_64 [.int (nI (9 + 6 * 2))]) rfl rfl hl_57.1 rfl (lv_room (Nat.le_of_ble_eq_true rfl)) dX8_passes_162 ⟨Nat.zero_le _, Nat.zero_le _⟩) hS_64 (fun r_67 Y_68 H_69 locs_70 hW_71 hS_72 h_66 => ?_)
            obtain ⟨h_66, hy_73⟩ := h_66
            replace hy_73 := hy_73.symm
            subst hy_73
            replace h_66 : r_67 = oM_isFluid zz (X.1 21) (9 + 6 * 2) := h_66
            subst h_66
            refine lv_if_eq (tgt := 172) hx hb dX8_passes_165 (by decide) (fun b_74 => ?_) (fun b_74 => ?_)
            · refine lv_iconst (v := 0) hx hb dX8_passes_172 (by decide) ?_
              refine lv_iadd hx hb dX8_passes_173 ?_
              refine g_top (y := 0) (by decide) ?_
              refine lv_istore_n (lv' := [(2, .int 0), (3, .int 2), (0, .ref (ad G 723)), (1, .int (nI dd))]) hx hb dX8_passes_174 rfl hl_57 (by decide) rfl (fun ls_75 hl_76 => ?_)
              refine lv_iinc (v := 3) (lv' := [(3, .int 3), (2, .int 0), (0, .ref (ad G 723)), (1, .int (nI dd))]) hx hb dX8_passes_175 hl_76 (k := 1) rfl (by decide) (by decide) rfl (fun ls_77 hl_78 => ?_)
              refine lv_goto (tgt := 151) hx hb dX8_passes_178 (by decide) ?_
              refine lv_iload_n hx hb dX8_passes_151 rfl (lv_at hl_78 0 rfl) ?_
              refine lv_iconst (v := 3) hx hb dX8_passes_152 (by decide) ?_
              refine lv_icmp_ge (tgt := 181) hx hb dX8_passes_153 (by decide) (fun _ => ?_) (fun h9 => absurd h9 (by decide))
              refine lv_iload_n hx hb dX8_passes_181 rfl (lv_at hl_78 1 rfl) ?_
              exact g_iret C hr hlk hW_71 hS_72 dX8_passes_182 (by subst hz; exact ⟨(by simp only [oM_passes, clf (show dd < 2 ^ 31 by omega), b_9, if_true, if_false, molM, eq_true b_32, eq_true b_53, eq_true b_74]; first | done | rfl | decide), (by simp only [oM_passes, clf (show dd < 2 ^ 31 by omega), b_9, if_true, if_false])⟩)
            · refine lv_iconst (v := 1) hx hb dX8_passes_168 (by decide) ?_
              refine lv_goto (tgt := 173) hx hb dX8_passes_169 (by decide) ?_
              refine lv_iadd hx hb dX8_passes_173 ?_
              refine g_top (y := 1) (by decide) ?_
              refine lv_istore_n (lv' := [(2, .int 1), (3, .int 2), (0, .ref (ad G 723)), (1, .int (nI dd))]) hx hb dX8_passes_174 rfl hl_57 (by decide) rfl (fun ls_79 hl_80 => ?_)
              refine lv_iinc (v := 3) (lv' := [(3, .int 3), (2, .int 1), (0, .ref (ad G 723)), (1, .int (nI dd))]) hx hb dX8_passes_175 hl_80 (k := 1) rfl (by decide) (by decide) rfl (fun ls_81 hl_82 => ?_)
              refine lv_goto (tgt := 151) hx hb dX8_passes_178 (by decide) ?_
              refine lv_iload_n hx hb dX8_passes_151 rfl (lv_at hl_82 0 rfl) ?_
              refine lv_iconst (v := 3) hx hb dX8_passes_152 (by decide) ?_
              refine lv_icmp_ge (tgt := 181) hx hb dX8_passes_153 (by decide) (fun _ => ?_) (fun h9 => absurd h9 (by decide))
              refine lv_iload_n hx hb dX8_passes_181 rfl (lv_at hl_82 1 rfl) ?_
              exact g_iret C hr hlk hW_71 hS_72 dX8_passes_182 (by subst hz; exact ⟨(by simp only [oM_passes, clf (show dd < 2 ^ 31 by omega), b_9, if_true, if_false, molM, eq_true b_32, eq_true b_53, b_74]; first | done | rfl | decide), (by simp only [oM_passes, clf (show dd < 2 ^ 31 by omega), b_9, if_true, if_false])⟩)
          · refine lv_iconst (v := 1) hx hb dX8_passes_168 (by decide) ?_
            refine lv_goto (tgt := 173) hx hb dX8_passes_169 (by decide) ?_
            refine lv_iadd hx hb dX8_passes_173 ?_
            refine g_top (y := 1) (by decide) ?_
            refine lv_istore_n (lv' := [(2, .int 1), (3, .int 1), (0, .ref (ad G 723)), (1, .int (nI dd))]) hx hb dX8_passes_174 rfl hl_36 (by decide) rfl (fun ls_83 hl_84 => ?_)
            refine lv_iinc (v := 2) (lv' := [(3, .int 2), (2, .int 1), (0, .ref (ad G 723)), (1, .int (nI dd))]) hx hb dX8_passes_175 hl_84 (k := 1) rfl (by decide) (by decide) rfl (fun ls_85 hl_86 => ?_)
            refine lv_goto (tgt := 151) hx hb dX8_passes_178 (by decide) ?_
            refine lv_iload_n hx hb dX8_passes_151 rfl (lv_at hl_86 0 rfl) ?_
            refine lv_iconst (v := 3) hx hb dX8_passes_152 (by decide) ?_
            refine lv_icmp_ge (tgt := 181) hx hb dX8_passes_153 (by decide) (fun h9 => absurd h9 (by decide)) (fun _ => ?_)
            refine lv_iload_n hx hb dX8_passes_156 rfl (lv_at hl_86 1 rfl) ?_
            refine lv_aload_n hx hb dX8_passes_157 rfl (lv_at hl_86 2 rfl) ?_
            refine lv_iload_n hx hb dX8_passes_158 rfl (lv_at hl_86 0 rfl) ?_
            refine g_calli (va_runS (As := [.int 2]) (rest := [.ref (ad G 723), .int 1]) C.1 (cX8_furnace_ok l G (setRow (setRow X 15 (X.1 15)) 16 zz) 2) (va_cwS 1 C.1.2.2.2.2 (gS qw_1470 qw_1471 qw_81 qw_1472) rfl rfl rfl (by decide +kernel) ⟨Nat.le_of_ble_eq_true rfl, Nat.le_of_ble_eq_true rfl⟩) (g_pre C hW_50 hS_51 [.int 2]) rfl rfl hl_86.1 rfl (lv_room (Nat.le_of_ble_eq_true rfl)) dX8_passes_159 ⟨Nat.zero_le _, Nat.zero_le _⟩) hS_51 (fun r_88 Y_89 H_90 locs_91 hW_92 hS_93 h_87 => ?_)
            obtain ⟨h_87, hy_94⟩ := h_87
            replace hy_94 := hy_94.symm
            subst hy_94
            replace h_87 : r_88 = oM_furnace 2 := h_87
            subst h_87
            refine g_top (y := nI (9 + 6 * 2)) (at_furnace 2) ?_
            refine g_calli (va_runV (As := [.int (nI (9 + 6 * 2))]) (rest := [.int 1]) C.1 (cX8_isFluid_ok l G (setRow (setRow X 15 (X.1 15)) 16 zz) (9 + 6 * 2) (show 9 + 6 * 2 + 5 ≤ 128 by omega)) (cwV 1 C.1.2.2.2.2 (gV qw_1611 qw_1613 qw_39 qw_81 qw_1614) rfl rfl rfl (by decide +kernel) ⟨Nat.le_of_ble_eq_true rfl, Nat.le_of_ble_eq_true rfl⟩) (g_rModel C hW_92 hS_93 [.int (nI (9 + 6 * 2))]) rfl rfl hl_86.1 rfl (lv_room (Nat.le_of_ble_eq_true rfl)) dX8_passes_162 ⟨Nat.zero_le _, Nat.zero_le _⟩) hS_93 (fun r_96 Y_97 H_98 locs_99 hW_100 hS_101 h_95 => ?_)
            obtain ⟨h_95, hy_102⟩ := h_95
            replace hy_102 := hy_102.symm
            subst hy_102
            replace h_95 : r_96 = oM_isFluid zz (X.1 21) (9 + 6 * 2) := h_95
            subst h_95
            refine lv_if_eq (tgt := 172) hx hb dX8_passes_165 (by decide) (fun b_103 => ?_) (fun b_103 => ?_)
            · refine lv_iconst (v := 0) hx hb dX8_passes_172 (by decide) ?_
              refine lv_iadd hx hb dX8_passes_173 ?_
              refine g_top (y := 1) (by decide) ?_
              refine lv_istore_n (lv' := [(2, .int 1), (3, .int 2), (0, .ref (ad G 723)), (1, .int (nI dd))]) hx hb dX8_passes_174 rfl hl_86 (by decide) rfl (fun ls_104 hl_105 => ?_)
              refine lv_iinc (v := 3) (lv' := [(3, .int 3), (2, .int 1), (0, .ref (ad G 723)), (1, .int (nI dd))]) hx hb dX8_passes_175 hl_105 (k := 1) rfl (by decide) (by decide) rfl (fun ls_106 hl_107 => ?_)
              refine lv_goto (tgt := 151) hx hb dX8_passes_178 (by decide) ?_
              refine lv_iload_n hx hb dX8_passes_151 rfl (lv_at hl_107 0 rfl) ?_
              refine lv_iconst (v := 3) hx hb dX8_passes_152 (by decide) ?_
              refine lv_icmp_ge (tgt := 181) hx hb dX8_passes_153 (by decide) (fun _ => ?_) (fun h9 => absurd h9 (by decide))
              refine lv_iload_n hx hb dX8_passes_181 rfl (lv_at hl_107 1 rfl) ?_
              exact g_iret C hr hlk hW_100 hS_101 dX8_passes_182 (by subst hz; exact ⟨(by simp only [oM_passes, clf (show dd < 2 ^ 31 by omega), b_9, if_true, if_false, molM, eq_true b_32, b_53, eq_true b_103]; first | done | rfl | decide), (by simp only [oM_passes, clf (show dd < 2 ^ 31 by omega), b_9, if_true, if_false])⟩)
            · refine lv_iconst (v := 1) hx hb dX8_passes_168 (by decide) ?_
              refine lv_goto (tgt := 173) hx hb dX8_passes_169 (by decide) ?_
              refine lv_iadd hx hb dX8_passes_173 ?_
              refine g_top (y := 2) (by decide) ?_
              refine lv_istore_n (lv' := [(2, .int 2), (3, .int 2), (0, .ref (ad G 723)), (1, .int (nI dd))]) hx hb dX8_passes_174 rfl hl_86 (by decide) rfl (fun ls_108 hl_109 => ?_)
              refine lv_iinc (v := 3) (lv' := [(3, .int 3), (2, .int 2), (0, .ref (ad G 723)), (1, .int (nI dd))]) hx hb dX8_passes_175 hl_109 (k := 1) rfl (by decide) (by decide) rfl (fun ls_110 hl_111 => ?_)
              refine lv_goto (tgt := 151) hx hb dX8_passes_178 (by decide) ?_
              refine lv_iload_n hx hb dX8_passes_151 rfl (lv_at hl_111 0 rfl) ?_
              refine lv_iconst (v := 3) hx hb dX8_passes_152 (by decide) ?_
              refine lv_icmp_ge (tgt := 181) hx hb dX8_passes_153 (by decide) (fun _ => ?_) (fun h9 => absurd h9 (by decide))
              refine lv_iload_n hx hb dX8_passes_181 rfl (lv_at hl_111 1 rfl) ?_
              exact g_iret C hr hlk hW_100 hS_101 dX8_passes_182 (by subst hz; exact ⟨(by simp only [oM_passes, clf (show dd < 2 ^ 31 by omega), b_9, if_true, if_false, molM, eq_true b_32, b_53, b_103]; first | done | rfl | decide), (by simp only [oM_passes, clf (show dd < 2 ^ 31 by omega), b_9, if_true, if_false])⟩)
        · refine lv_iconst (v := 1) hx hb dX8_passes_168 (by decide) ?_
          refine lv_goto (tgt := 173) hx hb dX8_passes_169 (by decide) ?_
          refine lv_iadd hx hb dX8_passes_173 ?_
          refine g_top (y := 1) (by decide) ?_
          refine lv_istore_n (lv' := [(2, .int 1), (3, .int 0), (0, .ref (ad G 723)), (1, .int (nI dd))]) hx hb dX8_passes_174 rfl hl_15 (by decide) rfl (fun ls_112 hl_113 => ?_)
          refine lv_iinc (v := 1) (lv' := [(3, .int 1), (2, .int 1), (0, .ref (ad G 723)), (1, .int (nI dd))]) hx hb dX8_passes_175 hl_113 (k := 1) rfl (by decide) (by decide) rfl (fun ls_114 hl_115 => ?_)
          refine lv_goto (tgt := 151) hx hb dX8_passes_178 (by decide) ?_
          refine lv_iload_n hx hb dX8_passes_151 rfl (lv_at hl_115 0 rfl) ?_
          refine lv_iconst (v := 3) hx hb dX8_passes_152 (by decide) ?_
          refine lv_icmp_ge (tgt := 181) hx hb dX8_passes_153 (by decide) (fun h9 => absurd h9 (by decide)) (fun _ => ?_)
          refine lv_iload_n hx hb dX8_passes_156 rfl (lv_at hl_115 1 rfl) ?_
          refine lv_aload_n hx hb dX8_passes_157 rfl (lv_at hl_115 2 rfl) ?_
          refine lv_iload_n hx hb dX8_passes_158 rfl (lv_at hl_115 0 rfl) ?_
          refine g_calli (va_runS (As := [.int 1]) (rest := [.ref (ad G 723), .int 1]) C.1 (cX8_furnace_ok l G (setRow (setRow X 15 (X.1 15)) 16 zz) 1) (va_cwS 1 C.1.2.2.2.2 (gS qw_1470 qw_1471 qw_81 qw_1472) rfl rfl rfl (by decide +kernel) ⟨Nat.le_of_ble_eq_true rfl, Nat.le_of_ble_eq_true rfl⟩) (g_pre C hW_29 hS_30 [.int 1]) rfl rfl hl_115.1 rfl (lv_room (Nat.le_of_ble_eq_true rfl)) dX8_passes_159 ⟨Nat.zero_le _, Nat.zero_le _⟩) hS_30 (fun r_117 Y_118 H_119 locs_120 hW_121 hS_122 h_116 => ?_)
          obtain ⟨h_116, hy_123⟩ := h_116
          replace hy_123 := hy_123.symm
          subst hy_123
          replace h_116 : r_117 = oM_furnace 1 := h_116
          subst h_116
          refine g_top (y := nI (9 + 6 * 1)) (at_furnace 1) ?_
          refine g_calli (va_runV (As := [.int (nI (9 + 6 * 1))]) (rest := [.int 1]) C.1 (cX8_isFluid_ok l G (setRow (setRow X 15 (X.1 15)) 16 zz) (9 + 6 * 1) (show 9 + 6 * 1 + 5 ≤ 128 by omega)) (cwV 1 C.1.2.2.2.2 (gV qw_1611 qw_1613 qw_39 qw_81 qw_1614) rfl rfl rfl (by decide +kernel) ⟨Nat.le_of_ble_eq_true rfl, Nat.le_of_ble_eq_true rfl⟩) (g_rModel C hW_121 hS_122 [.int (nI (9 + 6 * 1))]) rfl rfl hl_115.1 rfl (lv_room (Nat.le_of_ble_eq_true rfl)) dX8_passes_162 ⟨Nat.zero_le _, Nat.zero_le _⟩) hS_122 (fun r_125 Y_126 H_127 locs_128 hW_129 hS_130 h_124 => ?_)
          obtain ⟨h_124, hy_131⟩ := h_124
          replace hy_131 := hy_131.symm
          subst hy_131
          replace h_124 : r_125 = oM_isFluid zz (X.1 21) (9 + 6 * 1) := h_124
          subst h_124
          refine lv_if_eq (tgt := 172) hx hb dX8_passes_165 (by decide) (fun b_132 => ?_) (fun b_132 => ?_)
          · refine lv_iconst (v := 0) hx hb dX8_passes_172 (by decide) ?_
            refine lv_iadd hx hb dX8_passes_173 ?_
            refine g_top (y := 1) (by decide) ?_
            refine lv_istore_n (lv' := [(2, .int 1), (3, .int 1), (0, .ref (ad G 723)), (1, .int (nI dd))]) hx hb dX8_passes_174 rfl hl_115 (by decide) rfl (fun ls_133 hl_134 => ?_)
            refine lv_iinc (v := 2) (lv' := [(3, .int 2), (2, .int 1), (0, .ref (ad G 723)), (1, .int (nI dd))]) hx hb dX8_passes_175 hl_134 (k := 1) rfl (by decide) (by decide) rfl (fun ls_135 hl_136 => ?_)
            refine lv_goto (tgt := 151) hx hb dX8_passes_178 (by decide) ?_
            refine lv_iload_n hx hb dX8_passes_151 rfl (lv_at hl_136 0 rfl) ?_
            refine lv_iconst (v := 3) hx hb dX8_passes_152 (by decide) ?_
            refine lv_icmp_ge (tgt := 181) hx hb dX8_passes_153 (by decide) (fun h9 => absurd h9 (by decide)) (fun _ => ?_)
            refine lv_iload_n hx hb dX8_passes_156 rfl (lv_at hl_136 1 rfl) ?_
            refine lv_aload_n hx hb dX8_passes_157 rfl (lv_at hl_136 2 rfl) ?_
            refine lv_iload_n hx hb dX8_passes_158 rfl (lv_at hl_136 0 rfl) ?_
            refine g_calli (va_runS (As := [.int 2]) (rest := [.ref (ad G 723), .int 1]) C.1 (cX8_furnace_ok l G (setRow (setRow X 15 (X.1 15)) 16 zz) 2) (va_cwS 1 C.1.2.2.2.2 (gS qw_1470 qw_1471 qw_81 qw_1472) rfl rfl rfl (by decide +kernel) ⟨Nat.le_of_ble_eq_true rfl, Nat.le_of_ble_eq_true rfl⟩) (g_pre C hW_129 hS_130 [.int 2]) rfl rfl hl_136.1 rfl (lv_room (Nat.le_of_ble_eq_true rfl)) dX8_passes_159 ⟨Nat.zero_le _, Nat.zero_le _⟩) hS_130 (fun r_138 Y_139 H_140 locs_141 hW_142 hS_143 h_137 => ?_)
            obtain ⟨h_137, hy_144⟩ := h_137
            replace hy_144 := hy_144.symm
            subst hy_144
            replace h_137 : r_138 = oM_furnace 2 := h_137
            subst h_137
            refine g_top (y := nI (9 + 6 * 2)) (at_furnace 2) ?_
            refine g_calli (va_runV (As := [.int (nI (9 + 6 * 2))]) (rest := [.int 1]) C.1 (cX8_isFluid_ok l G (setRow (setRow X 15 (X.1 15)) 16 zz) (9 + 6 * 2) (show 9 + 6 * 2 + 5 ≤ 128 by omega)) (cwV 1 C.1.2.2.2.2 (gV qw_1611 qw_1613 qw_39 qw_81 qw_1614) rfl rfl rfl (by decide +kernel) ⟨Nat.le_of_ble_eq_true rfl, Nat.le_of_ble_eq_true rfl⟩) (g_rModel C hW_142 hS_143 [.int (nI (9 + 6 * 2))]) rfl rfl hl_136.1 rfl (lv_room (Nat.le_of_ble_eq_true rfl)) dX8_passes_162 ⟨Nat.zero_le _, Nat.zero_le _⟩) hS_143 (fun r_146 Y_147 H_148 locs_149 hW_150 hS_151 h_145 => ?_)
            obtain ⟨h_145, hy_152⟩ := h_145
            replace hy_152 := hy_152.symm
            subst hy_152
            replace h_145 : r_146 = oM_isFluid zz (X.1 21) (9 + 6 * 2) := h_145
            subst h_145
            refine lv_if_eq (tgt := 172) hx hb dX8_passes_165 (by decide) (fun b_153 => ?_) (fun b_153 => ?_)
            · refine lv_iconst (v := 0) hx hb dX8_passes_172 (by decide) ?_
              refine lv_iadd hx hb dX8_passes_173 ?_
              refine g_top (y := 1) (by decide) ?_
              refine lv_istore_n (lv' := [(2, .int 1), (3, .int 2), (0, .ref (ad G 723)), (1, .int (nI dd))]) hx hb dX8_passes_174 rfl hl_136 (by decide) rfl (fun ls_154 hl_155 => ?_)
              refine lv_iinc (v := 3) (lv' := [(3, .int 3), (2, .int 1), (0, .ref (ad G 723)), (1, .int (nI dd))]) hx hb dX8_passes_175 hl_155 (k := 1) rfl (by decide) (by decide) rfl (fun ls_156 hl_157 => ?_)
              refine lv_goto (tgt := 151) hx hb dX8_passes_178 (by decide) ?_
              refine lv_iload_n hx hb dX8_passes_151 rfl (lv_at hl_157 0 rfl) ?_
              refine lv_iconst (v := 3) hx hb dX8_passes_152 (by decide) ?_
              refine lv_icmp_ge (tgt := 181) hx hb dX8_passes_153 (by decide) (fun _ => ?_) (fun h9 => absurd h9 (by decide))
              refine lv_iload_n hx hb dX8_passes_181 rfl (lv_at hl_157 1 rfl) ?_
              exact g_iret C hr hlk hW_150 hS_151 dX8_passes_182 (by subst hz; exact ⟨(by simp only [oM_passes, clf (show dd < 2 ^ 31 by omega), b_9, if_true, if_false, molM, b_32, eq_true b_132, eq_true b_153]; first | done | rfl | decide), (by simp only [oM_passes, clf (show dd < 2 ^ 31 by omega), b_9, if_true, if_false])⟩)
            · refine lv_iconst (v := 1) hx hb dX8_passes_168 (by decide) ?_
              refine lv_goto (tgt := 173) hx hb dX8_passes_169 (by decide) ?_
              refine lv_iadd hx hb dX8_passes_173 ?_
              refine g_top (y := 2) (by decide) ?_
              refine lv_istore_n (lv' := [(2, .int 2), (3, .int 2), (0, .ref (ad G 723)), (1, .int (nI dd))]) hx hb dX8_passes_174 rfl hl_136 (by decide) rfl (fun ls_158 hl_159 => ?_)
              refine lv_iinc (v := 3) (lv' := [(3, .int 3), (2, .int 2), (0, .ref (ad G 723)), (1, .int (nI dd))]) hx hb dX8_passes_175 hl_159 (k := 1) rfl (by decide) (by decide) rfl (fun ls_160 hl_161 => ?_)
              refine lv_goto (tgt := 151) hx hb dX8_passes_178 (by decide) ?_
              refine lv_iload_n hx hb dX8_passes_151 rfl (lv_at hl_161 0 rfl) ?_
              refine lv_iconst (v := 3) hx hb dX8_passes_152 (by decide) ?_
              refine lv_icmp_ge (tgt := 181) hx hb dX8_passes_153 (by decide) (fun _ => ?_) (fun h9 => absurd h9 (by decide))
              refine lv_iload_n hx hb dX8_passes_181 rfl (lv_at hl_161 1 rfl) ?_
              exact g_iret C hr hlk hW_150 hS_151 dX8_passes_182 (by subst hz; exact ⟨(by simp only [oM_passes, clf (show dd < 2 ^ 31 by omega), b_9, if_true, if_false, molM, b_32, eq_true b_132, b_153]; first | done | rfl | decide), (by simp only [oM_passes, clf (show dd < 2 ^ 31 by omega), b_9, if_true, if_false])⟩)
          · refine lv_iconst (v := 1) hx hb dX8_passes_168 (by decide) ?_
            refine lv_goto (tgt := 173) hx hb dX8_passes_169 (by decide) ?_
            refine lv_iadd hx hb dX8_passes_173 ?_
            refine g_top (y := 2) (by decide) ?_
            refine lv_istore_n (lv' := [(2, .int 2), (3, .int 1), (0, .ref (ad G 723)), (1, .int (nI dd))]) hx hb dX8_passes_174 rfl hl_115 (by decide) rfl (fun ls_162 hl_163 => ?_)
            refine lv_iinc (v := 2) (lv' := [(3, .int 2), (2, .int 2), (0, .ref (ad G 723)), (1, .int (nI dd))]) hx hb dX8_passes_175 hl_163 (k := 1) rfl (by decide) (by decide) rfl (fun ls_164 hl_165 => ?_)
            refine lv_goto (tgt := 151) hx hb dX8_passes_178 (by decide) ?_
            refine lv_iload_n hx hb dX8_passes_151 rfl (lv_at hl_165 0 rfl) ?_
            refine lv_iconst (v := 3) hx hb dX8_passes_152 (by decide) ?_
            refine lv_icmp_ge (tgt := 181) hx hb dX8_passes_153 (by decide) (fun h9 => absurd h9 (by decide)) (fun _ => ?_)
            refine lv_iload_n hx hb dX8_passes_156 rfl (lv_at hl_165 1 rfl) ?_
            refine lv_aload_n hx hb dX8_passes_157 rfl (lv_at hl_165 2 rfl) ?_
            refine lv_iload_n hx hb dX8_passes_158 rfl (lv_at hl_165 0 rfl) ?_
            refine g_calli (va_runS (As := [.int 2]) (rest := [.ref (ad G 723), .int 2]) C.1 (cX8_furnace_ok l G (setRow (setRow X 15 (X.1 15)) 16 zz) 2) (va_cwS 1 C.1.2.2.2.2 (gS qw_1470 qw_1471 qw_81 qw_1472) rfl rfl rfl (by decide +kernel) ⟨Nat.le_of_ble_eq_true rfl, Nat.le_of_ble_eq_true rfl⟩) (g_pre C hW_129 hS_130 [.int 2]) rfl rfl hl_165.1 rfl (lv_room (Nat.le_of_ble_eq_true rfl)) dX8_passes_159 ⟨Nat.zero_le _, Nat.zero_le _⟩) hS_130 (fun r_167 Y_168 H_169 locs_170 hW_171 hS_172 h_166 => ?_)
            obtain ⟨h_166, hy_173⟩ := h_166
            replace hy_173 := hy_173.symm
            subst hy_173
            replace h_166 : r_167 = oM_furnace 2 := h_166
            subst h_166
            refine g_top (y := nI (9 + 6 * 2)) (at_furnace 2) ?_
            refine g_calli (va_runV (As := [.int (nI (9 + 6 * 2))]) (rest := [.int 2]) C.1 (cX8_isFluid_ok l G (setRow (setRow X 15 (X.1 15)) 16 zz) (9 + 6 * 2) (show 9 + 6 * 2 + 5 ≤ 128 by omega)) (cwV 1 C.1.2.2.2.2 (gV qw_1611 qw_1613 qw_39 qw_81 qw_1614) rfl rfl rfl (by decide +kernel) ⟨Nat.le_of_ble_eq_true rfl, Nat.le_of_ble_eq_true rfl⟩) (g_rModel C hW_171 hS_172 [.int (nI (9 + 6 * 2))]) rfl rfl hl_165.1 rfl (lv_room (Nat.le_of_ble_eq_true rfl)) dX8_passes_162 ⟨Nat.zero_le _, Nat.zero_le _⟩) hS_172 (fun r_175 Y_176 H_177 locs_178 hW_179 hS_180 h_174 => ?_)
            obtain ⟨h_174, hy_181⟩ := h_174
            replace hy_181 := hy_181.symm
            subst hy_181
            replace h_174 : r_175 = oM_isFluid zz (X.1 21) (9 + 6 * 2) := h_174
            subst h_174
            refine lv_if_eq (tgt := 172) hx hb dX8_passes_165 (by decide) (fun b_182 => ?_) (fun b_182 => ?_)
            · refine lv_iconst (v := 0) hx hb dX8_passes_172 (by decide) ?_
              refine lv_iadd hx hb dX8_passes_173 ?_
              refine g_top (y := 2) (by decide) ?_
              refine lv_istore_n (lv' := [(2, .int 2), (3, .int 2), (0, .ref (ad G 723)), (1, .int (nI dd))]) hx hb dX8_passes_174 rfl hl_165 (by decide) rfl (fun ls_183 hl_184 => ?_)
              refine lv_iinc (v := 3) (lv' := [(3, .int 3), (2, .int 2), (0, .ref (ad G 723)), (1, .int (nI dd))]) hx hb dX8_passes_175 hl_184 (k := 1) rfl (by decide) (by decide) rfl (fun ls_185 hl_186 => ?_)
              refine lv_goto (tgt := 151) hx hb dX8_passes_178 (by decide) ?_
              refine lv_iload_n hx hb dX8_passes_151 rfl (lv_at hl_186 0 rfl) ?_
              refine lv_iconst (v := 3) hx hb dX8_passes_152 (by decide) ?_
              refine lv_icmp_ge (tgt := 181) hx hb dX8_passes_153 (by decide) (fun _ => ?_) (fun h9 => absurd h9 (by decide))
              refine lv_iload_n hx hb dX8_passes_181 rfl (lv_at hl_186 1 rfl) ?_
              exact g_iret C hr hlk hW_179 hS_180 dX8_passes_182 (by subst hz; exact ⟨(by simp only [oM_passes, clf (show dd < 2 ^ 31 by omega), b_9, if_true, if_false, molM, b_32, b_132, eq_true b_182]; first | done | rfl | decide), (by simp only [oM_passes, clf (show dd < 2 ^ 31 by omega), b_9, if_true, if_false])⟩)
            · refine lv_iconst (v := 1) hx hb dX8_passes_168 (by decide) ?_
              refine lv_goto (tgt := 173) hx hb dX8_passes_169 (by decide) ?_
              refine lv_iadd hx hb dX8_passes_173 ?_
              refine g_top (y := 3) (by decide) ?_
              refine lv_istore_n (lv' := [(2, .int 3), (3, .int 2), (0, .ref (ad G 723)), (1, .int (nI dd))]) hx hb dX8_passes_174 rfl hl_165 (by decide) rfl (fun ls_187 hl_188 => ?_)
              refine lv_iinc (v := 3) (lv' := [(3, .int 3), (2, .int 3), (0, .ref (ad G 723)), (1, .int (nI dd))]) hx hb dX8_passes_175 hl_188 (k := 1) rfl (by decide) (by decide) rfl (fun ls_189 hl_190 => ?_)
              refine lv_goto (tgt := 151) hx hb dX8_passes_178 (by decide) ?_
              refine lv_iload_n hx hb dX8_passes_151 rfl (lv_at hl_190 0 rfl) ?_
              refine lv_iconst (v := 3) hx hb dX8_passes_152 (by decide) ?_
              refine lv_icmp_ge (tgt := 181) hx hb dX8_passes_153 (by decide) (fun _ => ?_) (fun h9 => absurd h9 (by decide))
              refine lv_iload_n hx hb dX8_passes_181 rfl (lv_at hl_190 1 rfl) ?_
              exact g_iret C hr hlk hW_179 hS_180 dX8_passes_182 (by subst hz; exact ⟨(by simp only [oM_passes, clf (show dd < 2 ^ 31 by omega), b_9, if_true, if_false, molM, b_32, b_132, b_182]; first | done | rfl | decide), (by simp only [oM_passes, clf (show dd < 2 ^ 31 by omega), b_9, if_true, if_false])⟩)
      | succ q ih =>
        intro kk zz H locs ls hq hf hW hS hl
        refine lv_iload_n hx hb dX8_passes_19 rfl (lv_at hl 0 rfl) ?_
        refine lv_iload_n hx hb dX8_passes_20 rfl (lv_at hl 2 rfl) ?_
        refine lv_icmp_ge (tgt := 147) hx hb dX8_passes_21 (by decide) (fun h9 => absurd h9 (nI_ge (a := kk) (b := dd) (by omega) (by omega))) (fun _ => ?_)
        refine lv_aload_n hx hb dX8_passes_24 rfl (lv_at hl 1 rfl) ?_
        refine gM_v C hW (hwc hwX8) (mc qw_1481) dX8_passes_25 ?_
        refine lv_iconst (v := 0) hx hb dX8_passes_28 (by decide) ?_
        refine lv_dup2_11 hx hb dX8_passes_29 rfl rfl ?_
        refine gm_vld C hW 0 (by decide) (vlit (by decide)) dX8_passes_30 ?_
        refine g_top (y := zz (0)) (congrFun rd_out _) ?_
        refine lv_iconst (v := 1) hx hb dX8_passes_31 (by decide) ?_
        refine lv_iadd hx hb dX8_passes_32 ?_
        refine gm_vst C hW hS 0 (by decide) (vlit (by decide)) dX8_passes_33 (fun H_191 locs_192 hW_193 hS_194 => ?_)
        obtain ⟨w_195, ew_195⟩ : ∃ Z9, Z9 = upd zz (0) ((zz (0)) + 1) := ⟨_, rfl⟩
        have hW_196 : Wd G (setRow (setRow X 15 (X.1 15)) 16 w_195) H_191 := Wd.cast (by rw [ew_195]; exact st_out) hW_193
        refine lv_iconst (v := 0) hx hb dX8_passes_34 (by decide) ?_
        refine lv_istore_n (lv' := [(3, .int 0), (2, .int (nI kk)), (0, .ref (ad G 723)), (1, .int (nI dd))]) hx hb dX8_passes_35 rfl hl (by decide) rfl (fun ls_197 hl_198 => ?_)
        refine lv_iload_n hx hb dX8_passes_36 rfl (lv_at hl_198 0 rfl) ?_
        refine lv_iconst (v := 3) hx hb dX8_passes_37 (by decide) ?_
        refine lv_icmp_ge (tgt := 89) hx hb dX8_passes_38 (by decide) (fun h9 => absurd h9 (by decide)) (fun _ => ?_)
        refine lv_aload_n hx hb dX8_passes_41 rfl (lv_at hl_198 2 rfl) ?_
        refine gM_v C hW_196 (hwc hwX8) (mc qw_1481) dX8_passes_42 ?_
        refine lv_iload_n hx hb dX8_passes_45 rfl (lv_at hl_198 0 rfl) ?_
        refine g_calli (va_runS (As := [.int 0]) (rest := [.ref (ad G 724)]) C.1 (cX8_furnace_ok l G (setRow (setRow X 15 (X.1 15)) 16 w_195) 0) (va_cwS 1 C.1.2.2.2.2 (gS qw_1470 qw_1471 qw_81 qw_1472) rfl rfl rfl (by decide +kernel) ⟨Nat.le_of_ble_eq_true rfl, Nat.le_of_ble_eq_true rfl⟩) (g_pre C hW_196 hS_194 [.int 0]) rfl rfl hl_198.1 rfl (lv_room (Nat.le_of_ble_eq_true rfl)) dX8_passes_46 ⟨Nat.zero_le _, Nat.zero_le _⟩) hS_194 (fun r_200 Y_201 H_202 locs_203 hW_204 hS_205 h_199 => ?_)
        obtain ⟨h_199, hy_206⟩ := h_199
        replace hy_206 := hy_206.symm
        subst hy_206
        replace h_199 : r_200 = oM_furnace 0 := h_199
        subst h_199
        refine g_top (y := nI (9 + 6 * 0)) (at_furnace 0) ?_
        refine lv_iconst (v := 4) hx hb dX8_passes_49 (by decide) ?_
        refine lv_iadd hx hb dX8_passes_50 ?_
        refine g_top (y := nI ((9 + 6 * 0) + 4)) (nI_add (9 + 6 * 0) 4) ?_
        refine lv_aload_n hx hb dX8_passes_51 rfl (lv_at hl_198 2 rfl) ?_
        refine gM_v C hW_204 (hwc hwX8) (mc qw_1481) dX8_passes_52 ?_
        refine lv_iload_n hx hb dX8_passes_55 rfl (lv_at hl_198 0 rfl) ?_
        refine g_calli (va_runS (As := [.int 0]) (rest := [.ref (ad G 724), .int (nI ((9 + 6 * 0) + 4)), .ref (ad G 724)]) C.1 (cX8_furnace_ok l G (setRow (setRow X 15 (X.1 15)) 16 w_195) 0) (va_cwS 1 C.1.2.2.2.2 (gS qw_1470 qw_1471 qw_81 qw_1472) rfl rfl rfl (by decide +kernel) ⟨Nat.le_of_ble_eq_true rfl, Nat.le_of_ble_eq_true rfl⟩) (g_pre C hW_204 hS_205 [.int 0]) rfl rfl hl_198.1 rfl (lv_room (Nat.le_of_ble_eq_true rfl)) dX8_passes_56 ⟨Nat.zero_le _, Nat.zero_le _⟩) hS_205 (fun r_208 Y_209 H_210 locs_211 hW_212 hS_213 h_207 => ?_)
        obtain ⟨h_207, hy_214⟩ := h_207
        replace hy_214 := hy_214.symm
        subst hy_214
        replace h_207 : r_208 = oM_furnace 0 := h_207
        subst h_207
        refine g_top (y := nI (9 + 6 * 0)) (at_furnace 0) ?_
        refine lv_iconst (v := 4) hx hb dX8_passes_59 (by decide) ?_
        refine lv_iadd hx hb dX8_passes_60 ?_
        refine g_top (y := nI ((9 + 6 * 0) + 4)) (nI_add (9 + 6 * 0) 4) ?_
        refine gm_vld C hW_212 ((9 + 6 * 0) + 4) (nI_clamp (by omega)) (vp_in_nI (show (9 + 6 * 0) + 4 < 128 by omega) (by decide)) dX8_passes_61 ?_
        refine g_top (y := w_195 ((9 + 6 * 0) + 4)) (congrFun rd_out _) ?_
        refine lv_bipush (v := 10) hx hb dX8_passes_62 (by decide) ?_
        refine lv_aload_n hx hb dX8_passes_64 rfl (lv_at hl_198 2 rfl) ?_
        refine gM_v C hW_212 (hwc hwX8) (mc qw_1481) dX8_passes_65 ?_
        refine lv_iload_n hx hb dX8_passes_68 rfl (lv_at hl_198 0 rfl) ?_
        refine g_calli (va_runS (As := [.int 0]) (rest := [.ref (ad G 724), .int 10, .int (w_195 ((9 + 6 * 0) + 4)), .int (nI ((9 + 6 * 0) + 4)), .ref (ad G 724)]) C.1 (cX8_furnace_ok l G (setRow (setRow X 15 (X.1 15)) 16 w_195) 0) (va_cwS 1 C.1.2.2.2.2 (gS qw_1470 qw_1471 qw_81 qw_1472) rfl rfl rfl (by decide +kernel) ⟨Nat.le_of_ble_eq_true rfl, Nat.le_of_ble_eq_true rfl⟩) (g_pre C hW_212 hS_213 [.int 0]) rfl rfl hl_198.1 rfl (lv_room (Nat.le_of_ble_eq_true rfl)) dX8_passes_69 ⟨Nat.zero_le _, Nat.zero_le _⟩) hS_213 (fun r_216 Y_217 H_218 locs_219 hW_220 hS_221 h_215 => ?_)
        obtain ⟨h_215, hy_222⟩ := h_215
        replace hy_222 := hy_222.symm
        subst hy_222
        replace h_215 : r_216 = oM_furnace 0 := h_215
        subst h_215
        refine g_top (y := nI (9 + 6 * 0)) (at_furnace 0) ?_
        refine lv_iconst (v := 5) hx hb dX8_passes_72 (by decide) ?_
        refine lv_iadd hx hb dX8_passes_73 ?_
        refine g_top (y := nI ((9 + 6 * 0) + 5)) (nI_add (9 + 6 * 0) 5) ?_
        refine gm_vld C hW_220 ((9 + 6 * 0) + 5) (nI_clamp (by omega)) (vp_in_nI (show (9 + 6 * 0) + 5 < 128 by omega) (by decide)) dX8_passes_74 ?_
        refine g_top (y := w_195 ((9 + 6 * 0) + 5)) (congrFun rd_out _) ?_
        refine lv_imul hx hb dX8_passes_75 ?_
        refine lv_iadd hx hb dX8_passes_76 ?_
        refine lv_iconst (v := 5) hx hb dX8_passes_77 (by decide) ?_
        refine lv_isub hx hb dX8_passes_78 ?_
        refine g_calli (va_runS (As := [.int (((w_195 ((9 + 6 * 0) + 4)) + (10 * (w_195 ((9 + 6 * 0) + 5)))) - 5)]) (rest := [.int (nI ((9 + 6 * 0) + 4)), .ref (ad G 724)]) C.1 (cX8_held_ok l G (setRow (setRow X 15 (X.1 15)) 16 w_195) (((w_195 ((9 + 6 * 0) + 4)) + (10 * (w_195 ((9 + 6 * 0) + 5)))) - 5)) (va_cwS 1 C.1.2.2.2.2 (gS qw_1701 qw_1702 qw_81 qw_1703) rfl rfl rfl (by decide +kernel) ⟨Nat.le_of_ble_eq_true rfl, Nat.le_of_ble_eq_true rfl⟩) (g_pre C hW_220 hS_221 [.int (((w_195 ((9 + 6 * 0) + 4)) + (10 * (w_195 ((9 + 6 * 0) + 5)))) - 5)]) rfl rfl hl_198.1 rfl (lv_room (Nat.le_of_ble_eq_true rfl)) dX8_passes_79 ⟨Nat.zero_le _, Nat.zero_le _⟩) hS_221 (fun r_224 Y_225 H_226 locs_227 hW_228 hS_229 h_223 => ?_)
        obtain ⟨h_223, hy_230⟩ := h_223
        replace hy_230 := hy_230.symm
        subst hy_230
        replace h_223 : r_224 = oM_held (((w_195 ((9 + 6 * 0) + 4)) + (10 * (w_195 ((9 + 6 * 0) + 5)))) - 5) := h_223
        subst h_223
        refine gm_vst C hW_228 hS_229 ((9 + 6 * 0) + 4) (nI_clamp (by omega)) (vp_in_nI (show (9 + 6 * 0) + 4 < 128 by omega) (by decide)) dX8_passes_82 (fun H_231 locs_232 hW_233 hS_234 => ?_)
        obtain ⟨w_235, ew_235⟩ : ∃ Z9, Z9 = upd w_195 ((9 + 6 * 0) + 4) (oM_held (((w_195 ((9 + 6 * 0) + 4)) + (10 * (w_195 ((9 + 6 * 0) + 5)))) - 5)) := ⟨_, rfl⟩
        have hW_236 : Wd G (setRow (setRow X 15 (X.1 15)) 16 w_235) H_231 := Wd.cast (by rw [ew_235]; exact st_out) hW_233
        refine lv_iinc (v := 1) (lv' := [(3, .int 1), (2, .int (nI kk)), (0, .ref (ad G 723)), (1, .int (nI dd))]) hx hb dX8_passes_83 hl_198 (k := 0) rfl (by decide) (by decide) rfl (fun ls_237 hl_238 => ?_)
        refine lv_goto (tgt := 36) hx hb dX8_passes_86 (by decide) ?_
        refine lv_iload_n hx hb dX8_passes_36 rfl (lv_at hl_238 0 rfl) ?_
        refine lv_iconst (v := 3) hx hb dX8_passes_37 (by decide) ?_
        refine lv_icmp_ge (tgt := 89) hx hb dX8_passes_38 (by decide) (fun h9 => absurd h9 (by decide)) (fun _ => ?_)
        refine lv_aload_n hx hb dX8_passes_41 rfl (lv_at hl_238 2 rfl) ?_
        refine gM_v C hW_236 (hwc hwX8) (mc qw_1481) dX8_passes_42 ?_
        refine lv_iload_n hx hb dX8_passes_45 rfl (lv_at hl_238 0 rfl) ?_
        refine g_calli (va_runS (As := [.int 1]) (rest := [.ref (ad G 724)]) C.1 (cX8_furnace_ok l G (setRow (setRow X 15 (X.1 15)) 16 w_235) 1) (va_cwS 1 C.1.2.2.2.2 (gS qw_1470 qw_1471 qw_81 qw_1472) rfl rfl rfl (by decide +kernel) ⟨Nat.le_of_ble_eq_true rfl, Nat.le_of_ble_eq_true rfl⟩) (g_pre C hW_236 hS_234 [.int 1]) rfl rfl hl_238.1 rfl (lv_room (Nat.le_of_ble_eq_true rfl)) dX8_passes_46 ⟨Nat.zero_le _, Nat.zero_le _⟩) hS_234 (fun r_240 Y_241 H_242 locs_243 hW_244 hS_245 h_239 => ?_)
        obtain ⟨h_239, hy_246⟩ := h_239
        replace hy_246 := hy_246.symm
        subst hy_246
        replace h_239 : r_240 = oM_furnace 1 := h_239
        subst h_239
        refine g_top (y := nI (9 + 6 * 1)) (at_furnace 1) ?_
        refine lv_iconst (v := 4) hx hb dX8_passes_49 (by decide) ?_
        refine lv_iadd hx hb dX8_passes_50 ?_
        refine g_top (y := nI ((9 + 6 * 1) + 4)) (nI_add (9 + 6 * 1) 4) ?_
        refine lv_aload_n hx hb dX8_passes_51 rfl (lv_at hl_238 2 rfl) ?_
        refine gM_v C hW_244 (hwc hwX8) (mc qw_1481) dX8_passes_52 ?_
        refine lv_iload_n hx hb dX8_passes_55 rfl (lv_at hl_238 0 rfl) ?_
        refine g_calli (va_runS (As := [.int 1]) (rest := [.ref (ad G 724), .int (nI ((9 + 6 * 1) + 4)), .ref (ad G 724)]) C.1 (cX8_furnace_ok l G (setRow (setRow X 15 (X.1 15)) 16 w_235) 1) (va_cwS 1 C.1.2.2.2.2 (gS qw_1470 qw_1471 qw_81 qw_1472) rfl rfl rfl (by decide +kernel) ⟨Nat.le_of_ble_eq_true rfl, Nat.le_of_ble_eq_true rfl⟩) (g_pre C hW_244 hS_245 [.int 1]) rfl rfl hl_238.1 rfl (lv_room (Nat.le_of_ble_eq_true rfl)) dX8_passes_56 ⟨Nat.zero_le _, Nat.zero_le _⟩) hS_245 (fun r_248 Y_249 H_250 locs_251 hW_252 hS_253 h_247 => ?_)
        obtain ⟨h_247, hy_254⟩ := h_247
        replace hy_254 := hy_254.symm
        subst hy_254
        replace h_247 : r_248 = oM_furnace 1 := h_247
        subst h_247
        refine g_top (y := nI (9 + 6 * 1)) (at_furnace 1) ?_
        refine lv_iconst (v := 4) hx hb dX8_passes_59 (by decide) ?_
        refine lv_iadd hx hb dX8_passes_60 ?_
        refine g_top (y := nI ((9 + 6 * 1) + 4)) (nI_add (9 + 6 * 1) 4) ?_
        refine gm_vld C hW_252 ((9 + 6 * 1) + 4) (nI_clamp (by omega)) (vp_in_nI (show (9 + 6 * 1) + 4 < 128 by omega) (by decide)) dX8_passes_61 ?_
        refine g_top (y := w_235 ((9 + 6 * 1) + 4)) (congrFun rd_out _) ?_
        refine lv_bipush (v := 10) hx hb dX8_passes_62 (by decide) ?_
        refine lv_aload_n hx hb dX8_passes_64 rfl (lv_at hl_238 2 rfl) ?_
        refine gM_v C hW_252 (hwc hwX8) (mc qw_1481) dX8_passes_65 ?_
        refine lv_iload_n hx hb dX8_passes_68 rfl (lv_at hl_238 0 rfl) ?_
        refine g_calli (va_runS (As := [.int 1]) (rest := [.ref (ad G 724), .int 10, .int (w_235 ((9 + 6 * 1) + 4)), .int (nI ((9 + 6 * 1) + 4)), .ref (ad G 724)]) C.1 (cX8_furnace_ok l G (setRow (setRow X 15 (X.1 15)) 16 w_235) 1) (va_cwS 1 C.1.2.2.2.2 (gS qw_1470 qw_1471 qw_81 qw_1472) rfl rfl rfl (by decide +kernel) ⟨Nat.le_of_ble_eq_true rfl, Nat.le_of_ble_eq_true rfl⟩) (g_pre C hW_252 hS_253 [.int 1]) rfl rfl hl_238.1 rfl (lv_room (Nat.le_of_ble_eq_true rfl)) dX8_passes_69 ⟨Nat.zero_le _, Nat.zero_le _⟩) hS_253 (fun r_256 Y_257 H_258 locs_259 hW_260 hS_261 h_255 => ?_)
        obtain ⟨h_255, hy_262⟩ := h_255
        replace hy_262 := hy_262.symm
        subst hy_262
        replace h_255 : r_256 = oM_furnace 1 := h_255
        subst h_255
        refine g_top (y := nI (9 + 6 * 1)) (at_furnace 1) ?_
        refine lv_iconst (v := 5) hx hb dX8_passes_72 (by decide) ?_
        refine lv_iadd hx hb dX8_passes_73 ?_
        refine g_top (y := nI ((9 + 6 * 1) + 5)) (nI_add (9 + 6 * 1) 5) ?_
        refine gm_vld C hW_260 ((9 + 6 * 1) + 5) (nI_clamp (by omega)) (vp_in_nI (show (9 + 6 * 1) + 5 < 128 by omega) (by decide)) dX8_passes_74 ?_
        refine g_top (y := w_235 ((9 + 6 * 1) + 5)) (congrFun rd_out _) ?_
        refine lv_imul hx hb dX8_passes_75 ?_
        refine lv_iadd hx hb dX8_passes_76 ?_
        refine lv_iconst (v := 5) hx hb dX8_passes_77 (by decide) ?_
        refine lv_isub hx hb dX8_passes_78 ?_
        refine g_calli (va_runS (As := [.int (((w_235 ((9 + 6 * 1) + 4)) + (10 * (w_235 ((9 + 6 * 1) + 5)))) - 5)]) (rest := [.int (nI ((9 + 6 * 1) + 4)), .ref (ad G 724)]) C.1 (cX8_held_ok l G (setRow (setRow X 15 (X.1 15)) 16 w_235) (((w_235 ((9 + 6 * 1) + 4)) + (10 * (w_235 ((9 + 6 * 1) + 5)))) - 5)) (va_cwS 1 C.1.2.2.2.2 (gS qw_1701 qw_1702 qw_81 qw_1703) rfl rfl rfl (by decide +kernel) ⟨Nat.le_of_ble_eq_true rfl, Nat.le_of_ble_eq_true rfl⟩) (g_pre C hW_260 hS_261 [.int (((w_235 ((9 + 6 * 1) + 4)) + (10 * (w_235 ((9 + 6 * 1) + 5)))) - 5)]) rfl rfl hl_238.1 rfl (lv_room (Nat.le_of_ble_eq_true rfl)) dX8_passes_79 ⟨Nat.zero_le _, Nat.zero_le _⟩) hS_261 (fun r_264 Y_265 H_266 locs_267 hW_268 hS_269 h_263 => ?_)
        obtain ⟨h_263, hy_270⟩ := h_263
        replace hy_270 := hy_270.symm
        subst hy_270
        replace h_263 : r_264 = oM_held (((w_235 ((9 + 6 * 1) + 4)) + (10 * (w_235 ((9 + 6 * 1) + 5)))) - 5) := h_263
        subst h_263
        refine gm_vst C hW_268 hS_269 ((9 + 6 * 1) + 4) (nI_clamp (by omega)) (vp_in_nI (show (9 + 6 * 1) + 4 < 128 by omega) (by decide)) dX8_passes_82 (fun H_271 locs_272 hW_273 hS_274 => ?_)
        obtain ⟨w_275, ew_275⟩ : ∃ Z9, Z9 = upd w_235 ((9 + 6 * 1) + 4) (oM_held (((w_235 ((9 + 6 * 1) + 4)) + (10 * (w_235 ((9 + 6 * 1) + 5)))) - 5)) := ⟨_, rfl⟩
        have hW_276 : Wd G (setRow (setRow X 15 (X.1 15)) 16 w_275) H_271 := Wd.cast (by rw [ew_275]; exact st_out) hW_273
        refine lv_iinc (v := 2) (lv' := [(3, .int 2), (2, .int (nI kk)), (0, .ref (ad G 723)), (1, .int (nI dd))]) hx hb dX8_passes_83 hl_238 (k := 0) rfl (by decide) (by decide) rfl (fun ls_277 hl_278 => ?_)
        refine lv_goto (tgt := 36) hx hb dX8_passes_86 (by decide) ?_
        refine lv_iload_n hx hb dX8_passes_36 rfl (lv_at hl_278 0 rfl) ?_
        refine lv_iconst (v := 3) hx hb dX8_passes_37 (by decide) ?_
        refine lv_icmp_ge (tgt := 89) hx hb dX8_passes_38 (by decide) (fun h9 => absurd h9 (by decide)) (fun _ => ?_)
        refine lv_aload_n hx hb dX8_passes_41 rfl (lv_at hl_278 2 rfl) ?_
        refine gM_v C hW_276 (hwc hwX8) (mc qw_1481) dX8_passes_42 ?_
        refine lv_iload_n hx hb dX8_passes_45 rfl (lv_at hl_278 0 rfl) ?_
        refine g_calli (va_runS (As := [.int 2]) (rest := [.ref (ad G 724)]) C.1 (cX8_furnace_ok l G (setRow (setRow X 15 (X.1 15)) 16 w_275) 2) (va_cwS 1 C.1.2.2.2.2 (gS qw_1470 qw_1471 qw_81 qw_1472) rfl rfl rfl (by decide +kernel) ⟨Nat.le_of_ble_eq_true rfl, Nat.le_of_ble_eq_true rfl⟩) (g_pre C hW_276 hS_274 [.int 2]) rfl rfl hl_278.1 rfl (lv_room (Nat.le_of_ble_eq_true rfl)) dX8_passes_46 ⟨Nat.zero_le _, Nat.zero_le _⟩) hS_274 (fun r_280 Y_281 H_282 locs_283 hW_284 hS_285 h_279 => ?_)
        obtain ⟨h_279, hy_286⟩ := h_279
        replace hy_286 := hy_286.symm
        subst hy_286
        replace h_279 : r_280 = oM_furnace 2 := h_279
        subst h_279
        refine g_top (y := nI (9 + 6 * 2)) (at_furnace 2) ?_
        refine lv_iconst (v := 4) hx hb dX8_passes_49 (by decide) ?_
        refine lv_iadd hx hb dX8_passes_50 ?_
        refine g_top (y := nI ((9 + 6 * 2) + 4)) (nI_add (9 + 6 * 2) 4) ?_
        refine lv_aload_n hx hb dX8_passes_51 rfl (lv_at hl_278 2 rfl) ?_
        refine gM_v C hW_284 (hwc hwX8) (mc qw_1481) dX8_passes_52 ?_
        refine lv_iload_n hx hb dX8_passes_55 rfl (lv_at hl_278 0 rfl) ?_
        refine g_calli (va_runS (As := [.int 2]) (rest := [.ref (ad G 724), .int (nI ((9 + 6 * 2) + 4)), .ref (ad G 724)]) C.1 (cX8_furnace_ok l G (setRow (setRow X 15 (X.1 15)) 16 w_275) 2) (va_cwS 1 C.1.2.2.2.2 (gS qw_1470 qw_1471 qw_81 qw_1472) rfl rfl rfl (by decide +kernel) ⟨Nat.le_of_ble_eq_true rfl, Nat.le_of_ble_eq_true rfl⟩) (g_pre C hW_284 hS_285 [.int 2]) rfl rfl hl_278.1 rfl (lv_room (Nat.le_of_ble_eq_true rfl)) dX8_passes_56 ⟨Nat.zero_le _, Nat.zero_le _⟩) hS_285 (fun r_288 Y_289 H_290 locs_291 hW_292 hS_293 h_287 => ?_)
        obtain ⟨h_287, hy_294⟩ := h_287
        replace hy_294 := hy_294.symm
        subst hy_294
        replace h_287 : r_288 = oM_furnace 2 := h_287
        subst h_287
        refine g_top (y := nI (9 + 6 * 2)) (at_furnace 2) ?_
        refine lv_iconst (v := 4) hx hb dX8_passes_59 (by decide) ?_
        refine lv_iadd hx hb dX8_passes_60 ?_
        refine g_top (y := nI ((9 + 6 * 2) + 4)) (nI_add (9 + 6 * 2) 4) ?_
        refine gm_vld C hW_292 ((9 + 6 * 2) + 4) (nI_clamp (by omega)) (vp_in_nI (show (9 + 6 * 2) + 4 < 128 by omega) (by decide)) dX8_passes_61 ?_
        refine g_top (y := w_275 ((9 + 6 * 2) + 4)) (congrFun rd_out _) ?_
        refine lv_bipush (v := 10) hx hb dX8_passes_62 (by decide) ?_
        refine lv_aload_n hx hb dX8_passes_64 rfl (lv_at hl_278 2 rfl) ?_
        refine gM_v C hW_292 (hwc hwX8) (mc qw_1481) dX8_passes_65 ?_
        refine lv_iload_n hx hb dX8_passes_68 rfl (lv_at hl_278 0 rfl) ?_
        refine g_calli (va_runS (As := [.int 2]) (rest := [.ref (ad G 724), .int 10, .int (w_275 ((9 + 6 * 2) + 4)), .int (nI ((9 + 6 * 2) + 4)), .ref (ad G 724)]) C.1 (cX8_furnace_ok l G (setRow (setRow X 15 (X.1 15)) 16 w_275) 2) (va_cwS 1 C.1.2.2.2.2 (gS qw_1470 qw_1471 qw_81 qw_1472) rfl rfl rfl (by decide +kernel) ⟨Nat.le_of_ble_eq_true rfl, Nat.le_of_ble_eq_true rfl⟩) (g_pre C hW_292 hS_293 [.int 2]) rfl rfl hl_278.1 rfl (lv_room (Nat.le_of_ble_eq_true rfl)) dX8_passes_69 ⟨Nat.zero_le _, Nat.zero_le _⟩) hS_293 (fun r_296 Y_297 H_298 locs_299 hW_300 hS_301 h_295 => ?_)
        obtain ⟨h_295, hy_302⟩ := h_295
        replace hy_302 := hy_302.symm
        subst hy_302
        replace h_295 : r_296 = oM_furnace 2 := h_295
        subst h_295
        refine g_top (y := nI (9 + 6 * 2)) (at_furnace 2) ?_
        refine lv_iconst (v := 5) hx hb dX8_passes_72 (by decide) ?_
        refine lv_iadd hx hb dX8_passes_73 ?_
        refine g_top (y := nI ((9 + 6 * 2) + 5)) (nI_add (9 + 6 * 2) 5) ?_
        refine gm_vld C hW_300 ((9 + 6 * 2) + 5) (nI_clamp (by omega)) (vp_in_nI (show (9 + 6 * 2) + 5 < 128 by omega) (by decide)) dX8_passes_74 ?_
        refine g_top (y := w_275 ((9 + 6 * 2) + 5)) (congrFun rd_out _) ?_
        refine lv_imul hx hb dX8_passes_75 ?_
        refine lv_iadd hx hb dX8_passes_76 ?_
        refine lv_iconst (v := 5) hx hb dX8_passes_77 (by decide) ?_
        refine lv_isub hx hb dX8_passes_78 ?_
        refine g_calli (va_runS (As := [.int (((w_275 ((9 + 6 * 2) + 4)) + (10 * (w_275 ((9 + 6 * 2) + 5)))) - 5)]) (rest := [.int (nI ((9 + 6 * 2) + 4)), .ref (ad G 724)]) C.1 (cX8_held_ok l G (setRow (setRow X 15 (X.1 15)) 16 w_275) (((w_275 ((9 + 6 * 2) + 4)) + (10 * (w_275 ((9 + 6 * 2) + 5)))) - 5)) (va_cwS 1 C.1.2.2.2.2 (gS qw_1701 qw_1702 qw_81 qw_1703) rfl rfl rfl (by decide +kernel) ⟨Nat.le_of_ble_eq_true rfl, Nat.le_of_ble_eq_true rfl⟩) (g_pre C hW_300 hS_301 [.int (((w_275 ((9 + 6 * 2) + 4)) + (10 * (w_275 ((9 + 6 * 2) + 5)))) - 5)]) rfl rfl hl_278.1 rfl (lv_room (Nat.le_of_ble_eq_true rfl)) dX8_passes_79 ⟨Nat.zero_le _, Nat.zero_le _⟩) hS_301 (fun r_304 Y_305 H_306 locs_307 hW_308 hS_309 h_303 => ?_)
        obtain ⟨h_303, hy_310⟩ := h_303
        replace hy_310 := hy_310.symm
        subst hy_310
        replace h_303 : r_304 = oM_held (((w_275 ((9 + 6 * 2) + 4)) + (10 * (w_275 ((9 + 6 * 2) + 5)))) - 5) := h_303
        subst h_303
        refine gm_vst C hW_308 hS_309 ((9 + 6 * 2) + 4) (nI_clamp (by omega)) (vp_in_nI (show (9 + 6 * 2) + 4 < 128 by omega) (by decide)) dX8_passes_82 (fun H_311 locs_312 hW_313 hS_314 => ?_)
        obtain ⟨w_315, ew_315⟩ : ∃ Z9, Z9 = upd w_275 ((9 + 6 * 2) + 4) (oM_held (((w_275 ((9 + 6 * 2) + 4)) + (10 * (w_275 ((9 + 6 * 2) + 5)))) - 5)) := ⟨_, rfl⟩
        have hW_316 : Wd G (setRow (setRow X 15 (X.1 15)) 16 w_315) H_311 := Wd.cast (by rw [ew_315]; exact st_out) hW_313
        refine lv_iinc (v := 3) (lv' := [(3, .int 3), (2, .int (nI kk)), (0, .ref (ad G 723)), (1, .int (nI dd))]) hx hb dX8_passes_83 hl_278 (k := 0) rfl (by decide) (by decide) rfl (fun ls_317 hl_318 => ?_)
        refine lv_goto (tgt := 36) hx hb dX8_passes_86 (by decide) ?_
        refine lv_iload_n hx hb dX8_passes_36 rfl (lv_at hl_318 0 rfl) ?_
        refine lv_iconst (v := 3) hx hb dX8_passes_37 (by decide) ?_
        refine lv_icmp_ge (tgt := 89) hx hb dX8_passes_38 (by decide) (fun _ => ?_) (fun h9 => absurd h9 (by decide))
        refine lv_iconst (v := 0) hx hb dX8_passes_89 (by decide) ?_
        refine lv_istore_n (lv' := [(3, .int 0), (2, .int (nI kk)), (0, .ref (ad G 723)), (1, .int (nI dd))]) hx hb dX8_passes_90 rfl hl_318 (by decide) rfl (fun ls_319 hl_320 => ?_)
        refine lv_iload_n hx hb dX8_passes_91 rfl (lv_at hl_320 0 rfl) ?_
        refine lv_iconst (v := 3) hx hb dX8_passes_92 (by decide) ?_
        refine lv_icmp_ge (tgt := 141) hx hb dX8_passes_93 (by decide) (fun h9 => absurd h9 (by decide)) (fun _ => ?_)
        refine lv_aload_n hx hb dX8_passes_96 rfl (lv_at hl_320 2 rfl) ?_
        refine lv_iload_n hx hb dX8_passes_97 rfl (lv_at hl_320 0 rfl) ?_
        refine g_calli (va_runS (As := [.int 0]) (rest := [.ref (ad G 723)]) C.1 (cX8_ladle_ok l G (setRow (setRow X 15 (X.1 15)) 16 w_315) 0) (va_cwS 1 C.1.2.2.2.2 (gS qw_1473 qw_1474 qw_81 qw_1475) rfl rfl rfl (by decide +kernel) ⟨Nat.le_of_ble_eq_true rfl, Nat.le_of_ble_eq_true rfl⟩) (g_pre C hW_316 hS_314 [.int 0]) rfl rfl hl_320.1 rfl (lv_room (Nat.le_of_ble_eq_true rfl)) dX8_passes_98 ⟨Nat.zero_le _, Nat.zero_le _⟩) hS_314 (fun r_322 Y_323 H_324 locs_325 hW_326 hS_327 h_321 => ?_)
        obtain ⟨h_321, hy_328⟩ := h_321
        replace hy_328 := hy_328.symm
        subst hy_328
        replace h_321 : r_322 = oM_ladle 0 := h_321
        subst h_321
        refine g_top (y := nI (27 + 5 * 0)) (at_ladle 0) ?_
        refine g_calli (va_runV (As := [.int (nI (27 + 5 * 0))]) (rest := []) C.1 (cX8_mass_ok l G (setRow (setRow X 15 (X.1 15)) 16 w_315) (27 + 5 * 0) (show 27 + 5 * 0 + 4 ≤ 128 by omega)) (cwV 1 C.1.2.2.2.2 (gV qw_1575 qw_1577 qw_32 qw_81 qw_1578) rfl rfl rfl (by decide +kernel) ⟨Nat.le_of_ble_eq_true rfl, Nat.le_of_ble_eq_true rfl⟩) (g_rModel C hW_326 hS_327 [.int (nI (27 + 5 * 0))]) rfl rfl hl_320.1 rfl (lv_room (Nat.le_of_ble_eq_true rfl)) dX8_passes_101 ⟨Nat.zero_le _, Nat.zero_le _⟩) hS_327 (fun r_330 Y_331 H_332 locs_333 hW_334 hS_335 h_329 => ?_)
        obtain ⟨h_329, hy_336⟩ := h_329
        replace hy_336 := hy_336.symm
        subst hy_336
        replace h_329 : r_330 = oM_mass w_315 (27 + 5 * 0) := h_329
        subst h_329
        refine lv_if_le (tgt := 135) hx hb dX8_passes_104 (by decide) (fun b_337 => ?_) (fun b_337 => ?_)
        · refine lv_iinc (v := 1) (lv' := [(3, .int 1), (2, .int (nI kk)), (0, .ref (ad G 723)), (1, .int (nI dd))]) hx hb dX8_passes_135 hl_320 (k := 0) rfl (by decide) (by decide) rfl (fun ls_338 hl_339 => ?_)
          refine lv_goto (tgt := 91) hx hb dX8_passes_138 (by decide) ?_
          refine lv_iload_n hx hb dX8_passes_91 rfl (lv_at hl_339 0 rfl) ?_
          refine lv_iconst (v := 3) hx hb dX8_passes_92 (by decide) ?_
          refine lv_icmp_ge (tgt := 141) hx hb dX8_passes_93 (by decide) (fun h9 => absurd h9 (by decide)) (fun _ => ?_)
          refine lv_aload_n hx hb dX8_passes_96 rfl (lv_at hl_339 2 rfl) ?_
          refine lv_iload_n hx hb dX8_passes_97 rfl (lv_at hl_339 0 rfl) ?_
          refine g_calli (va_runS (As := [.int 1]) (rest := [.ref (ad G 723)]) C.1 (cX8_ladle_ok l G (setRow (setRow X 15 (X.1 15)) 16 w_315) 1) (va_cwS 1 C.1.2.2.2.2 (gS qw_1473 qw_1474 qw_81 qw_1475) rfl rfl rfl (by decide +kernel) ⟨Nat.le_of_ble_eq_true rfl, Nat.le_of_ble_eq_true rfl⟩) (g_pre C hW_334 hS_335 [.int 1]) rfl rfl hl_339.1 rfl (lv_room (Nat.le_of_ble_eq_true rfl)) dX8_passes_98 ⟨Nat.zero_le _, Nat.zero_le _⟩) hS_335 (fun r_341 Y_342 H_343 locs_344 hW_345 hS_346 h_340 => ?_)
          obtain ⟨h_340, hy_347⟩ := h_340
          replace hy_347 := hy_347.symm
          subst hy_347
          replace h_340 : r_341 = oM_ladle 1 := h_340
          subst h_340
          refine g_top (y := nI (27 + 5 * 1)) (at_ladle 1) ?_
          refine g_calli (va_runV (As := [.int (nI (27 + 5 * 1))]) (rest := []) C.1 (cX8_mass_ok l G (setRow (setRow X 15 (X.1 15)) 16 w_315) (27 + 5 * 1) (show 27 + 5 * 1 + 4 ≤ 128 by omega)) (cwV 1 C.1.2.2.2.2 (gV qw_1575 qw_1577 qw_32 qw_81 qw_1578) rfl rfl rfl (by decide +kernel) ⟨Nat.le_of_ble_eq_true rfl, Nat.le_of_ble_eq_true rfl⟩) (g_rModel C hW_345 hS_346 [.int (nI (27 + 5 * 1))]) rfl rfl hl_339.1 rfl (lv_room (Nat.le_of_ble_eq_true rfl)) dX8_passes_101 ⟨Nat.zero_le _, Nat.zero_le _⟩) hS_346 (fun r_349 Y_350 H_351 locs_352 hW_353 hS_354 h_348 => ?_)
          obtain ⟨h_348, hy_355⟩ := h_348
          replace hy_355 := hy_355.symm
          subst hy_355
          replace h_348 : r_349 = oM_mass w_315 (27 + 5 * 1) := h_348
          subst h_348
          refine lv_if_le (tgt := 135) hx hb dX8_passes_104 (by decide) (fun b_356 => ?_) (fun b_356 => ?_)
          · refine lv_iinc (v := 2) (lv' := [(3, .int 2), (2, .int (nI kk)), (0, .ref (ad G 723)), (1, .int (nI dd))]) hx hb dX8_passes_135 hl_339 (k := 0) rfl (by decide) (by decide) rfl (fun ls_357 hl_358 => ?_)
            refine lv_goto (tgt := 91) hx hb dX8_passes_138 (by decide) ?_
            refine lv_iload_n hx hb dX8_passes_91 rfl (lv_at hl_358 0 rfl) ?_
            refine lv_iconst (v := 3) hx hb dX8_passes_92 (by decide) ?_
            refine lv_icmp_ge (tgt := 141) hx hb dX8_passes_93 (by decide) (fun h9 => absurd h9 (by decide)) (fun _ => ?_)
            refine lv_aload_n hx hb dX8_passes_96 rfl (lv_at hl_358 2 rfl) ?_
            refine lv_iload_n hx hb dX8_passes_97 rfl (lv_at hl_358 0 rfl) ?_
            refine g_calli (va_runS (As := [.int 2]) (rest := [.ref (ad G 723)]) C.1 (cX8_ladle_ok l G (setRow (setRow X 15 (X.1 15)) 16 w_315) 2) (va_cwS 1 C.1.2.2.2.2 (gS qw_1473 qw_1474 qw_81 qw_1475) rfl rfl rfl (by decide +kernel) ⟨Nat.le_of_ble_eq_true rfl, Nat.le_of_ble_eq_true rfl⟩) (g_pre C hW_353 hS_354 [.int 2]) rfl rfl hl_358.1 rfl (lv_room (Nat.le_of_ble_eq_true rfl)) dX8_passes_98 ⟨Nat.zero_le _, Nat.zero_le _⟩) hS_354 (fun r_360 Y_361 H_362 locs_363 hW_364 hS_365 h_359 => ?_)
            obtain ⟨h_359, hy_366⟩ := h_359
            replace hy_366 := hy_366.symm
            subst hy_366
            replace h_359 : r_360 = oM_ladle 2 := h_359
            subst h_359
            refine g_top (y := nI (27 + 5 * 2)) (at_ladle 2) ?_
            refine g_calli (va_runV (As := [.int (nI (27 + 5 * 2))]) (rest := []) C.1 (cX8_mass_ok l G (setRow (setRow X 15 (X.1 15)) 16 w_315) (27 + 5 * 2) (show 27 + 5 * 2 + 4 ≤ 128 by omega)) (cwV 1 C.1.2.2.2.2 (gV qw_1575 qw_1577 qw_32 qw_81 qw_1578) rfl rfl rfl (by decide +kernel) ⟨Nat.le_of_ble_eq_true rfl, Nat.le_of_ble_eq_true rfl⟩) (g_rModel C hW_364 hS_365 [.int (nI (27 + 5 * 2))]) rfl rfl hl_358.1 rfl (lv_room (Nat.le_of_ble_eq_true rfl)) dX8_passes_101 ⟨Nat.zero_le _, Nat.zero_le _⟩) hS_365 (fun r_368 Y_369 H_370 locs_371 hW_372 hS_373 h_367 => ?_)
            obtain ⟨h_367, hy_374⟩ := h_367
            replace hy_374 := hy_374.symm
            subst hy_374
            replace h_367 : r_368 = oM_mass w_315 (27 + 5 * 2) := h_367
            subst h_367
            refine lv_if_le (tgt := 135) hx hb dX8_passes_104 (by decide) (fun b_375 => ?_) (fun b_375 => ?_)
            · refine lv_iinc (v := 3) (lv' := [(3, .int 3), (2, .int (nI kk)), (0, .ref (ad G 723)), (1, .int (nI dd))]) hx hb dX8_passes_135 hl_358 (k := 0) rfl (by decide) (by decide) rfl (fun ls_376 hl_377 => ?_)
              refine lv_goto (tgt := 91) hx hb dX8_passes_138 (by decide) ?_
              refine lv_iload_n hx hb dX8_passes_91 rfl (lv_at hl_377 0 rfl) ?_
              refine lv_iconst (v := 3) hx hb dX8_passes_92 (by decide) ?_
              refine lv_icmp_ge (tgt := 141) hx hb dX8_passes_93 (by decide) (fun _ => ?_) (fun h9 => absurd h9 (by decide))
              refine lv_iinc (v := nI (kk + 1)) (lv' := [(2, .int (nI (kk + 1))), (3, .int 3), (0, .ref (ad G 723)), (1, .int (nI dd))]) hx hb dX8_passes_141 hl_377 (k := 1) rfl (nI_1 kk) (by decide) rfl (fun ls_378 hl_379 => ?_)
              refine lv_goto (tgt := 19) hx hb dX8_passes_144 (by decide) ?_
              exact ih (kk + 1) w_315 H_370 locs_371 ls_378 (by omega) (by rw [← hf, itMM]; refine congrArg (itMM _) ?_; symm; simp only [minuteM, furM, ← ew_195, ← ew_235, ← ew_275, ← ew_315, (show ladM w_315 0 = w_315 from if_pos b_337), (show ladM w_315 1 = w_315 from if_pos b_356), (show ladM w_315 2 = w_315 from if_pos b_375)]) hW_372 hS_373 (lv_sub hl_379 [0, 2, 3] rfl)
            · refine lv_aload_n hx hb dX8_passes_107 rfl (lv_at hl_358 2 rfl) ?_
              refine gM_v C hW_372 (hwc hwX8) (mc qw_1481) dX8_passes_108 ?_
              refine lv_iload_n hx hb dX8_passes_111 rfl (lv_at hl_358 0 rfl) ?_
              refine g_calli (va_runS (As := [.int 2]) (rest := [.ref (ad G 724)]) C.1 (cX8_ladle_ok l G (setRow (setRow X 15 (X.1 15)) 16 w_315) 2) (va_cwS 1 C.1.2.2.2.2 (gS qw_1473 qw_1474 qw_81 qw_1475) rfl rfl rfl (by decide +kernel) ⟨Nat.le_of_ble_eq_true rfl, Nat.le_of_ble_eq_true rfl⟩) (g_pre C hW_372 hS_373 [.int 2]) rfl rfl hl_358.1 rfl (lv_room (Nat.le_of_ble_eq_true rfl)) dX8_passes_112 ⟨Nat.zero_le _, Nat.zero_le _⟩) hS_373 (fun r_381 Y_382 H_383 locs_384 hW_385 hS_386 h_380 => ?_)
              obtain ⟨h_380, hy_387⟩ := h_380
              replace hy_387 := hy_387.symm
              subst hy_387
              replace h_380 : r_381 = oM_ladle 2 := h_380
              subst h_380
              refine g_top (y := nI (27 + 5 * 2)) (at_ladle 2) ?_
              refine lv_iconst (v := 4) hx hb dX8_passes_115 (by decide) ?_
              refine lv_iadd hx hb dX8_passes_116 ?_
              refine g_top (y := nI ((27 + 5 * 2) + 4)) (nI_add (27 + 5 * 2) 4) ?_
              refine lv_aload_n hx hb dX8_passes_117 rfl (lv_at hl_358 2 rfl) ?_
              refine gM_v C hW_385 (hwc hwX8) (mc qw_1481) dX8_passes_118 ?_
              refine lv_iload_n hx hb dX8_passes_121 rfl (lv_at hl_358 0 rfl) ?_
              refine g_calli (va_runS (As := [.int 2]) (rest := [.ref (ad G 724), .int (nI ((27 + 5 * 2) + 4)), .ref (ad G 724)]) C.1 (cX8_ladle_ok l G (setRow (setRow X 15 (X.1 15)) 16 w_315) 2) (va_cwS 1 C.1.2.2.2.2 (gS qw_1473 qw_1474 qw_81 qw_1475) rfl rfl rfl (by decide +kernel) ⟨Nat.le_of_ble_eq_true rfl, Nat.le_of_ble_eq_true rfl⟩) (g_pre C hW_385 hS_386 [.int 2]) rfl rfl hl_358.1 rfl (lv_room (Nat.le_of_ble_eq_true rfl)) dX8_passes_122 ⟨Nat.zero_le _, Nat.zero_le _⟩) hS_386 (fun r_389 Y_390 H_391 locs_392 hW_393 hS_394 h_388 => ?_)
              obtain ⟨h_388, hy_395⟩ := h_388
              replace hy_395 := hy_395.symm
              subst hy_395
              replace h_388 : r_389 = oM_ladle 2 := h_388
              subst h_388
              refine g_top (y := nI (27 + 5 * 2)) (at_ladle 2) ?_
              refine lv_iconst (v := 4) hx hb dX8_passes_125 (by decide) ?_
              refine lv_iadd hx hb dX8_passes_126 ?_
              refine g_top (y := nI ((27 + 5 * 2) + 4)) (nI_add (27 + 5 * 2) 4) ?_
              refine gm_vld C hW_393 ((27 + 5 * 2) + 4) (nI_clamp (by omega)) (vp_in_nI (show (27 + 5 * 2) + 4 < 128 by omega) (by decide)) dX8_passes_127 ?_
              refine g_top (y := w_315 ((27 + 5 * 2) + 4)) (congrFun rd_out _) ?_
              refine lv_bipush (v := 10) hx hb dX8_passes_128 (by decide) ?_
              refine lv_isub hx hb dX8_passes_130 ?_
              refine g_calli (va_runS (As := [.int ((w_315 ((27 + 5 * 2) + 4)) - 10)]) (rest := [.int (nI ((27 + 5 * 2) + 4)), .ref (ad G 724)]) C.1 (cX8_held_ok l G (setRow (setRow X 15 (X.1 15)) 16 w_315) ((w_315 ((27 + 5 * 2) + 4)) - 10)) (va_cwS 1 C.1.2.2.2.2 (gS qw_1701 qw_1702 qw_81 qw_1703) rfl rfl rfl (by decide +kernel) ⟨Nat.le_of_ble_eq_true rfl, Nat.le_of_ble_eq_true rfl⟩) (g_pre C hW_393 hS_394 [.int ((w_315 ((27 + 5 * 2) + 4)) - 10)]) rfl rfl hl_358.1 rfl (lv_room (Nat.le_of_ble_eq_true rfl)) dX8_passes_131 ⟨Nat.zero_le _, Nat.zero_le _⟩) hS_394 (fun r_397 Y_398 H_399 locs_400 hW_401 hS_402 h_396 => ?_)
              obtain ⟨h_396, hy_403⟩ := h_396
              replace hy_403 := hy_403.symm
              subst hy_403
              replace h_396 : r_397 = oM_held ((w_315 ((27 + 5 * 2) + 4)) - 10) := h_396
              subst h_396
              refine gm_vst C hW_401 hS_402 ((27 + 5 * 2) + 4) (nI_clamp (by omega)) (vp_in_nI (show (27 + 5 * 2) + 4 < 128 by omega) (by decide)) dX8_passes_134 (fun H_404 locs_405 hW_406 hS_407 => ?_)
              obtain ⟨w_408, ew_408⟩ : ∃ Z9, Z9 = upd w_315 ((27 + 5 * 2) + 4) (oM_held ((w_315 ((27 + 5 * 2) + 4)) - 10)) := ⟨_, rfl⟩
              have hW_409 : Wd G (setRow (setRow X 15 (X.1 15)) 16 w_408) H_404 := Wd.cast (by rw [ew_408]; exact st_out) hW_406
              refine lv_iinc (v := 3) (lv' := [(3, .int 3), (2, .int (nI kk)), (0, .ref (ad G 723)), (1, .int (nI dd))]) hx hb dX8_passes_135 hl_358 (k := 0) rfl (by decide) (by decide) rfl (fun ls_410 hl_411 => ?_)
              refine lv_goto (tgt := 91) hx hb dX8_passes_138 (by decide) ?_
              refine lv_iload_n hx hb dX8_passes_91 rfl (lv_at hl_411 0 rfl) ?_
              refine lv_iconst (v := 3) hx hb dX8_passes_92 (by decide) ?_
              refine lv_icmp_ge (tgt := 141) hx hb dX8_passes_93 (by decide) (fun _ => ?_) (fun h9 => absurd h9 (by decide))
              refine lv_iinc (v := nI (kk + 1)) (lv' := [(2, .int (nI (kk + 1))), (3, .int 3), (0, .ref (ad G 723)), (1, .int (nI dd))]) hx hb dX8_passes_141 hl_411 (k := 1) rfl (nI_1 kk) (by decide) rfl (fun ls_412 hl_413 => ?_)
              refine lv_goto (tgt := 19) hx hb dX8_passes_144 (by decide) ?_
              exact ih (kk + 1) w_408 H_404 locs_405 ls_412 (by omega) (by rw [← hf, itMM]; refine congrArg (itMM _) ?_; symm; simp only [minuteM, furM, ← ew_195, ← ew_235, ← ew_275, ← ew_315, ← ew_408, (show ladM w_315 0 = w_315 from if_pos b_337), (show ladM w_315 1 = w_315 from if_pos b_356), (show ladM w_315 2 = w_408 from (if_neg b_375).trans ew_408.symm)]) hW_409 hS_407 (lv_sub hl_413 [0, 2, 3] rfl)
          · refine lv_aload_n hx hb dX8_passes_107 rfl (lv_at hl_339 2 rfl) ?_
            refine gM_v C hW_353 (hwc hwX8) (mc qw_1481) dX8_passes_108 ?_
            refine lv_iload_n hx hb dX8_passes_111 rfl (lv_at hl_339 0 rfl) ?_
            refine g_calli (va_runS (As := [.int 1]) (rest := [.ref (ad G 724)]) C.1 (cX8_ladle_ok l G (setRow (setRow X 15 (X.1 15)) 16 w_315) 1) (va_cwS 1 C.1.2.2.2.2 (gS qw_1473 qw_1474 qw_81 qw_1475) rfl rfl rfl (by decide +kernel) ⟨Nat.le_of_ble_eq_true rfl, Nat.le_of_ble_eq_true rfl⟩) (g_pre C hW_353 hS_354 [.int 1]) rfl rfl hl_339.1 rfl (lv_room (Nat.le_of_ble_eq_true rfl)) dX8_passes_112 ⟨Nat.zero_le _, Nat.zero_le _⟩) hS_354 (fun r_415 Y_416 H_417 locs_418 hW_419 hS_420 h_414 => ?_)
            obtain ⟨h_414, hy_421⟩ := h_414
            replace hy_421 := hy_421.symm
            subst hy_421
            replace h_414 : r_415 = oM_ladle 1 := h_414
            subst h_414
            refine g_top (y := nI (27 + 5 * 1)) (at_ladle 1) ?_
            refine lv_iconst (v := 4) hx hb dX8_passes_115 (by decide) ?_
            refine lv_iadd hx hb dX8_passes_116 ?_
            refine g_top (y := nI ((27 + 5 * 1) + 4)) (nI_add (27 + 5 * 1) 4) ?_
            refine lv_aload_n hx hb dX8_passes_117 rfl (lv_at hl_339 2 rfl) ?_
            refine gM_v C hW_419 (hwc hwX8) (mc qw_1481) dX8_passes_118 ?_
            refine lv_iload_n hx hb dX8_passes_121 rfl (lv_at hl_339 0 rfl) ?_
            refine g_calli (va_runS (As := [.int 1]) (rest := [.ref (ad G 724), .int (nI ((27 + 5 * 1) + 4)), .ref (ad G 724)]) C.1 (cX8_ladle_ok l G (setRow (setRow X 15 (X.1 15)) 16 w_315) 1) (va_cwS 1 C.1.2.2.2.2 (gS qw_1473 qw_1474 qw_81 qw_1475) rfl rfl rfl (by decide +kernel) ⟨Nat.le_of_ble_eq_true rfl, Nat.le_of_ble_eq_true rfl⟩) (g_pre C hW_419 hS_420 [.int 1]) rfl rfl hl_339.1 rfl (lv_room (Nat.le_of_ble_eq_true rfl)) dX8_passes_122 ⟨Nat.zero_le _, Nat.zero_le _⟩) hS_420 (fun r_423 Y_424 H_425 locs_426 hW_427 hS_428 h_422 => ?_)
            obtain ⟨h_422, hy_429⟩ := h_422
            replace hy_429 := hy_429.symm
            subst hy_429
            replace h_422 : r_423 = oM_ladle 1 := h_422
            subst h_422
            refine g_top (y := nI (27 + 5 * 1)) (at_ladle 1) ?_
            refine lv_iconst (v := 4) hx hb dX8_passes_125 (by decide) ?_
            refine lv_iadd hx hb dX8_passes_126 ?_
            refine g_top (y := nI ((27 + 5 * 1) + 4)) (nI_add (27 + 5 * 1) 4) ?_
            refine gm_vld C hW_427 ((27 + 5 * 1) + 4) (nI_clamp (by omega)) (vp_in_nI (show (27 + 5 * 1) + 4 < 128 by omega) (by decide)) dX8_passes_127 ?_
            refine g_top (y := w_315 ((27 + 5 * 1) + 4)) (congrFun rd_out _) ?_
            refine lv_bipush (v := 10) hx hb dX8_passes_128 (by decide) ?_
            refine lv_isub hx hb dX8_passes_130 ?_
            refine g_calli (va_runS (As := [.int ((w_315 ((27 + 5 * 1) + 4)) - 10)]) (rest := [.int (nI ((27 + 5 * 1) + 4)), .ref (ad G 724)]) C.1 (cX8_held_ok l G (setRow (setRow X 15 (X.1 15)) 16 w_315) ((w_315 ((27 + 5 * 1) + 4)) - 10)) (va_cwS 1 C.1.2.2.2.2 (gS qw_1701 qw_1702 qw_81 qw_1703) rfl rfl rfl (by decide +kernel) ⟨Nat.le_of_ble_eq_true rfl, Nat.le_of_ble_eq_true rfl⟩) (g_pre C hW_427 hS_428 [.int ((w_315 ((27 + 5 * 1) + 4)) - 10)]) rfl rfl hl_339.1 rfl (lv_room (Nat.le_of_ble_eq_true rfl)) dX8_passes_131 ⟨Nat.zero_le _, Nat.zero_le _⟩) hS_428 (fun r_431 Y_432 H_433 locs_434 hW_435 hS_436 h_430 => ?_)
            obtain ⟨h_430, hy_437⟩ := h_430
            replace hy_437 := hy_437.symm
            subst hy_437
            replace h_430 : r_431 = oM_held ((w_315 ((27 + 5 * 1) + 4)) - 10) := h_430
            subst h_430
            refine gm_vst C hW_435 hS_436 ((27 + 5 * 1) + 4) (nI_clamp (by omega)) (vp_in_nI (show (27 + 5 * 1) + 4 < 128 by omega) (by decide)) dX8_passes_134 (fun H_438 locs_439 hW_440 hS_441 => ?_)
            obtain ⟨w_442, ew_442⟩ : ∃ Z9, Z9 = upd w_315 ((27 + 5 * 1) + 4) (oM_held ((w_315 ((27 + 5 * 1) + 4)) - 10)) := ⟨_, rfl⟩
            have hW_443 : Wd G (setRow (setRow X 15 (X.1 15)) 16 w_442) H_438 := Wd.cast (by rw [ew_442]; exact st_out) hW_440
            refine lv_iinc (v := 2) (lv' := [(3, .int 2), (2, .int (nI kk)), (0, .ref (ad G 723)), (1, .int (nI dd))]) hx hb dX8_passes_135 hl_339 (k := 0) rfl (by decide) (by decide) rfl (fun ls_444 hl_445 => ?_)
            refine lv_goto (tgt := 91) hx hb dX8_passes_138 (by decide) ?_
            refine lv_iload_n hx hb dX8_passes_91 rfl (lv_at hl_445 0 rfl) ?_
            refine lv_iconst (v := 3) hx hb dX8_passes_92 (by decide) ?_
            refine lv_icmp_ge (tgt := 141) hx hb dX8_passes_93 (by decide) (fun h9 => absurd h9 (by decide)) (fun _ => ?_)
            refine lv_aload_n hx hb dX8_passes_96 rfl (lv_at hl_445 2 rfl) ?_
            refine lv_iload_n hx hb dX8_passes_97 rfl (lv_at hl_445 0 rfl) ?_
            refine g_calli (va_runS (As := [.int 2]) (rest := [.ref (ad G 723)]) C.1 (cX8_ladle_ok l G (setRow (setRow X 15 (X.1 15)) 16 w_442) 2) (va_cwS 1 C.1.2.2.2.2 (gS qw_1473 qw_1474 qw_81 qw_1475) rfl rfl rfl (by decide +kernel) ⟨Nat.le_of_ble_eq_true rfl, Nat.le_of_ble_eq_true rfl⟩) (g_pre C hW_443 hS_441 [.int 2]) rfl rfl hl_445.1 rfl (lv_room (Nat.le_of_ble_eq_true rfl)) dX8_passes_98 ⟨Nat.zero_le _, Nat.zero_le _⟩) hS_441 (fun r_447 Y_448 H_449 locs_450 hW_451 hS_452 h_446 => ?_)
            obtain ⟨h_446, hy_453⟩ := h_446
            replace hy_453 := hy_453.symm
            subst hy_453
            replace h_446 : r_447 = oM_ladle 2 := h_446
            subst h_446
            refine g_top (y := nI (27 + 5 * 2)) (at_ladle 2) ?_
            refine g_calli (va_runV (As := [.int (nI (27 + 5 * 2))]) (rest := []) C.1 (cX8_mass_ok l G (setRow (setRow X 15 (X.1 15)) 16 w_442) (27 + 5 * 2) (show 27 + 5 * 2 + 4 ≤ 128 by omega)) (cwV 1 C.1.2.2.2.2 (gV qw_1575 qw_1577 qw_32 qw_81 qw_1578) rfl rfl rfl (by decide +kernel) ⟨Nat.le_of_ble_eq_true rfl, Nat.le_of_ble_eq_true rfl⟩) (g_rModel C hW_451 hS_452 [.int (nI (27 + 5 * 2))]) rfl rfl hl_445.1 rfl (lv_room (Nat.le_of_ble_eq_true rfl)) dX8_passes_101 ⟨Nat.zero_le _, Nat.zero_le _⟩) hS_452 (fun r_455 Y_456 H_457 locs_458 hW_459 hS_460 h_454 => ?_)
            obtain ⟨h_454, hy_461⟩ := h_454
            replace hy_461 := hy_461.symm
            subst hy_461
            replace h_454 : r_455 = oM_mass w_442 (27 + 5 * 2) := h_454
            subst h_454
            refine lv_if_le (tgt := 135) hx hb dX8_passes_104 (by decide) (fun b_462 => ?_) (fun b_462 => ?_)
            · refine lv_iinc (v := 3) (lv' := [(3, .int 3), (2, .int (nI kk)), (0, .ref (ad G 723)), (1, .int (nI dd))]) hx hb dX8_passes_135 hl_445 (k := 0) rfl (by decide) (by decide) rfl (fun ls_463 hl_464 => ?_)
              refine lv_goto (tgt := 91) hx hb dX8_passes_138 (by decide) ?_
              refine lv_iload_n hx hb dX8_passes_91 rfl (lv_at hl_464 0 rfl) ?_
              refine lv_iconst (v := 3) hx hb dX8_passes_92 (by decide) ?_
              refine lv_icmp_ge (tgt := 141) hx hb dX8_passes_93 (by decide) (fun _ => ?_) (fun h9 => absurd h9 (by decide))
              refine lv_iinc (v := nI (kk + 1)) (lv' := [(2, .int (nI (kk + 1))), (3, .int 3), (0, .ref (ad G 723)), (1, .int (nI dd))]) hx hb dX8_passes_141 hl_464 (k := 1) rfl (nI_1 kk) (by decide) rfl (fun ls_465 hl_466 => ?_)
              refine lv_goto (tgt := 19) hx hb dX8_passes_144 (by decide) ?_
              exact ih (kk + 1) w_442 H_457 locs_458 ls_465 (by omega) (by rw [← hf, itMM]; refine congrArg (itMM _) ?_; symm; simp only [minuteM, furM, ← ew_195, ← ew_235, ← ew_275, ← ew_315, ← ew_442, (show ladM w_315 0 = w_315 from if_pos b_337), (show ladM w_315 1 = w_442 from (if_neg b_356).trans ew_442.symm), (show ladM w_442 2 = w_442 from if_pos b_462)]) hW_459 hS_460 (lv_sub hl_466 [0, 2, 3] rfl)
            · refine lv_aload_n hx hb dX8_passes_107 rfl (lv_at hl_445 2 rfl) ?_
              refine gM_v C hW_459 (hwc hwX8) (mc qw_1481) dX8_passes_108 ?_
              refine lv_iload_n hx hb dX8_passes_111 rfl (lv_at hl_445 0 rfl) ?_
              refine g_calli (va_runS (As := [.int 2]) (rest := [.ref (ad G 724)]) C.1 (cX8_ladle_ok l G (setRow (setRow X 15 (X.1 15)) 16 w_442) 2) (va_cwS 1 C.1.2.2.2.2 (gS qw_1473 qw_1474 qw_81 qw_1475) rfl rfl rfl (by decide +kernel) ⟨Nat.le_of_ble_eq_true rfl, Nat.le_of_ble_eq_true rfl⟩) (g_pre C hW_459 hS_460 [.int 2]) rfl rfl hl_445.1 rfl (lv_room (Nat.le_of_ble_eq_true rfl)) dX8_passes_112 ⟨Nat.zero_le _, Nat.zero_le _⟩) hS_460 (fun r_468 Y_469 H_470 locs_471 hW_472 hS_473 h_467 => ?_)
              obtain ⟨h_467, hy_474⟩ := h_467
              replace hy_474 := hy_474.symm
              subst hy_474
              replace h_467 : r_468 = oM_ladle 2 := h_467
              subst h_467
              refine g_top (y := nI (27 + 5 * 2)) (at_ladle 2) ?_
              refine lv_iconst (v := 4) hx hb dX8_passes_115 (by decide) ?_
              refine lv_iadd hx hb dX8_passes_116 ?_
              refine g_top (y := nI ((27 + 5 * 2) + 4)) (nI_add (27 + 5 * 2) 4) ?_
              refine lv_aload_n hx hb dX8_passes_117 rfl (lv_at hl_445 2 rfl) ?_
              refine gM_v C hW_472 (hwc hwX8) (mc qw_1481) dX8_passes_118 ?_
              refine lv_iload_n hx hb dX8_passes_121 rfl (lv_at hl_445 0 rfl) ?_
              refine g_calli (va_runS (As := [.int 2]) (rest := [.ref (ad G 724), .int (nI ((27 + 5 * 2) + 4)), .ref (ad G 724)]) C.1 (cX8_ladle_ok l G (setRow (setRow X 15 (X.1 15)) 16 w_442) 2) (va_cwS 1 C.1.2.2.2.2 (gS qw_1473 qw_1474 qw_81 qw_1475) rfl rfl rfl (by decide +kernel) ⟨Nat.le_of_ble_eq_true rfl, Nat.le_of_ble_eq_true rfl⟩) (g_pre C hW_472 hS_473 [.int 2]) rfl rfl hl_445.1 rfl (lv_room (Nat.le_of_ble_eq_true rfl)) dX8_passes_122 ⟨Nat.zero_le _, Nat.zero_le _⟩) hS_473 (fun r_476 Y_477 H_478 locs_479 hW_480 hS_481 h_475 => ?_)
              obtain ⟨h_475, hy_482⟩ := h_475
              replace hy_482 := hy_482.symm
              subst hy_482
              replace h_475 : r_476 = oM_ladle 2 := h_475
              subst h_475
              refine g_top (y := nI (27 + 5 * 2)) (at_ladle 2) ?_
              refine lv_iconst (v := 4) hx hb dX8_passes_125 (by decide) ?_
              refine lv_iadd hx hb dX8_passes_126 ?_
              refine g_top (y := nI ((27 + 5 * 2) + 4)) (nI_add (27 + 5 * 2) 4) ?_
              refine gm_vld C hW_480 ((27 + 5 * 2) + 4) (nI_clamp (by omega)) (vp_in_nI (show (27 + 5 * 2) + 4 < 128 by omega) (by decide)) dX8_passes_127 ?_
              refine g_top (y := w_442 ((27 + 5 * 2) + 4)) (congrFun rd_out _) ?_
              refine lv_bipush (v := 10) hx hb dX8_passes_128 (by decide) ?_
              refine lv_isub hx hb dX8_passes_130 ?_
              refine g_calli (va_runS (As := [.int ((w_442 ((27 + 5 * 2) + 4)) - 10)]) (rest := [.int (nI ((27 + 5 * 2) + 4)), .ref (ad G 724)]) C.1 (cX8_held_ok l G (setRow (setRow X 15 (X.1 15)) 16 w_442) ((w_442 ((27 + 5 * 2) + 4)) - 10)) (va_cwS 1 C.1.2.2.2.2 (gS qw_1701 qw_1702 qw_81 qw_1703) rfl rfl rfl (by decide +kernel) ⟨Nat.le_of_ble_eq_true rfl, Nat.le_of_ble_eq_true rfl⟩) (g_pre C hW_480 hS_481 [.int ((w_442 ((27 + 5 * 2) + 4)) - 10)]) rfl rfl hl_445.1 rfl (lv_room (Nat.le_of_ble_eq_true rfl)) dX8_passes_131 ⟨Nat.zero_le _, Nat.zero_le _⟩) hS_481 (fun r_484 Y_485 H_486 locs_487 hW_488 hS_489 h_483 => ?_)
              obtain ⟨h_483, hy_490⟩ := h_483
              replace hy_490 := hy_490.symm
              subst hy_490
              replace h_483 : r_484 = oM_held ((w_442 ((27 + 5 * 2) + 4)) - 10) := h_483
              subst h_483
              refine gm_vst C hW_488 hS_489 ((27 + 5 * 2) + 4) (nI_clamp (by omega)) (vp_in_nI (show (27 + 5 * 2) + 4 < 128 by omega) (by decide)) dX8_passes_134 (fun H_491 locs_492 hW_493 hS_494 => ?_)
              obtain ⟨w_495, ew_495⟩ : ∃ Z9, Z9 = upd w_442 ((27 + 5 * 2) + 4) (oM_held ((w_442 ((27 + 5 * 2) + 4)) - 10)) := ⟨_, rfl⟩
              have hW_496 : Wd G (setRow (setRow X 15 (X.1 15)) 16 w_495) H_491 := Wd.cast (by rw [ew_495]; exact st_out) hW_493
              refine lv_iinc (v := 3) (lv' := [(3, .int 3), (2, .int (nI kk)), (0, .ref (ad G 723)), (1, .int (nI dd))]) hx hb dX8_passes_135 hl_445 (k := 0) rfl (by decide) (by decide) rfl (fun ls_497 hl_498 => ?_)
              refine lv_goto (tgt := 91) hx hb dX8_passes_138 (by decide) ?_
              refine lv_iload_n hx hb dX8_passes_91 rfl (lv_at hl_498 0 rfl) ?_
              refine lv_iconst (v := 3) hx hb dX8_passes_92 (by decide) ?_
              refine lv_icmp_ge (tgt := 141) hx hb dX8_passes_93 (by decide) (fun _ => ?_) (fun h9 => absurd h9 (by decide))
              refine lv_iinc (v := nI (kk + 1)) (lv' := [(2, .int (nI (kk + 1))), (3, .int 3), (0, .ref (ad G 723)), (1, .int (nI dd))]) hx hb dX8_passes_141 hl_498 (k := 1) rfl (nI_1 kk) (by decide) rfl (fun ls_499 hl_500 => ?_)
              refine lv_goto (tgt := 19) hx hb dX8_passes_144 (by decide) ?_
              exact ih (kk + 1) w_495 H_491 locs_492 ls_499 (by omega) (by rw [← hf, itMM]; refine congrArg (itMM _) ?_; symm; simp only [minuteM, furM, ← ew_195, ← ew_235, ← ew_275, ← ew_315, ← ew_442, ← ew_495, (show ladM w_315 0 = w_315 from if_pos b_337), (show ladM w_315 1 = w_442 from (if_neg b_356).trans ew_442.symm), (show ladM w_442 2 = w_495 from (if_neg b_462).trans ew_495.symm)]) hW_496 hS_494 (lv_sub hl_500 [0, 2, 3] rfl)
        · refine lv_aload_n hx hb dX8_passes_107 rfl (lv_at hl_320 2 rfl) ?_
          refine gM_v C hW_334 (hwc hwX8) (mc qw_1481) dX8_passes_108 ?_
          refine lv_iload_n hx hb dX8_passes_111 rfl (lv_at hl_320 0 rfl) ?_
          refine g_calli (va_runS (As := [.int 0]) (rest := [.ref (ad G 724)]) C.1 (cX8_ladle_ok l G (setRow (setRow X 15 (X.1 15)) 16 w_315) 0) (va_cwS 1 C.1.2.2.2.2 (gS qw_1473 qw_1474 qw_81 qw_1475) rfl rfl rfl (by decide +kernel) ⟨Nat.le_of_ble_eq_true rfl, Nat.le_of_ble_eq_true rfl⟩) (g_pre C hW_334 hS_335 [.int 0]) rfl rfl hl_320.1 rfl (lv_room (Nat.le_of_ble_eq_true rfl)) dX8_passes_112 ⟨Nat.zero_le _, Nat.zero_le _⟩) hS_335 (fun r_502 Y_503 H_504 locs_505 hW_506 hS_507 h_501 => ?_)
          obtain ⟨h_501, hy_508⟩ := h_501
          replace hy_508 := hy_508.symm
          subst hy_508
          replace h_501 : r_502 = oM_ladle 0 := h_501
          subst h_501
          refine g_top (y := nI (27 + 5 * 0)) (at_ladle 0) ?_
          refine lv_iconst (v := 4) hx hb dX8_passes_115 (by decide) ?_
          refine lv_iadd hx hb dX8_passes_116 ?_
          refine g_top (y := nI ((27 + 5 * 0) + 4)) (nI_add (27 + 5 * 0) 4) ?_
          refine lv_aload_n hx hb dX8_passes_117 rfl (lv_at hl_320 2 rfl) ?_
          refine gM_v C hW_506 (hwc hwX8) (mc qw_1481) dX8_passes_118 ?_
          refine lv_iload_n hx hb dX8_passes_121 rfl (lv_at hl_320 0 rfl) ?_
          refine g_calli (va_runS (As := [.int 0]) (rest := [.ref (ad G 724), .int (nI ((27 + 5 * 0) + 4)), .ref (ad G 724)]) C.1 (cX8_ladle_ok l G (setRow (setRow X 15 (X.1 15)) 16 w_315) 0) (va_cwS 1 C.1.2.2.2.2 (gS qw_1473 qw_1474 qw_81 qw_1475) rfl rfl rfl (by decide +kernel) ⟨Nat.le_of_ble_eq_true rfl, Nat.le_of_ble_eq_true rfl⟩) (g_pre C hW_506 hS_507 [.int 0]) rfl rfl hl_320.1 rfl (lv_room (Nat.le_of_ble_eq_true rfl)) dX8_passes_122 ⟨Nat.zero_le _, Nat.zero_le _⟩) hS_507 (fun r_510 Y_511 H_512 locs_513 hW_514 hS_515 h_509 => ?_)
          obtain ⟨h_509, hy_516⟩ := h_509
          replace hy_516 := hy_516.symm
          subst hy_516
          replace h_509 : r_510 = oM_ladle 0 := h_509
          subst h_509
          refine g_top (y := nI (27 + 5 * 0)) (at_ladle 0) ?_
          refine lv_iconst (v := 4) hx hb dX8_passes_125 (by decide) ?_
          refine lv_iadd hx hb dX8_passes_126 ?_
          refine g_top (y := nI ((27 + 5 * 0) + 4)) (nI_add (27 + 5 * 0) 4) ?_
          refine gm_vld C hW_514 ((27 + 5 * 0) + 4) (nI_clamp (by omega)) (vp_in_nI (show (27 + 5 * 0) + 4 < 128 by omega) (by decide)) dX8_passes_127 ?_
          refine g_top (y := w_315 ((27 + 5 * 0) + 4)) (congrFun rd_out _) ?_
          refine lv_bipush (v := 10) hx hb dX8_passes_128 (by decide) ?_
          refine lv_isub hx hb dX8_passes_130 ?_
          refine g_calli (va_runS (As := [.int ((w_315 ((27 + 5 * 0) + 4)) - 10)]) (rest := [.int (nI ((27 + 5 * 0) + 4)), .ref (ad G 724)]) C.1 (cX8_held_ok l G (setRow (setRow X 15 (X.1 15)) 16 w_315) ((w_315 ((27 + 5 * 0) + 4)) - 10)) (va_cwS 1 C.1.2.2.2.2 (gS qw_1701 qw_1702 qw_81 qw_1703) rfl rfl rfl (by decide +kernel) ⟨Nat.le_of_ble_eq_true rfl, Nat.le_of_ble_eq_true rfl⟩) (g_pre C hW_514 hS_515 [.int ((w_315 ((27 + 5 * 0) + 4)) - 10)]) rfl rfl hl_320.1 rfl (lv_room (Nat.le_of_ble_eq_true rfl)) dX8_passes_131 ⟨Nat.zero_le _, Nat.zero_le _⟩) hS_515 (fun r_518 Y_519 H_520 locs_521 hW_522 hS_523 h_517 => ?_)
          obtain ⟨h_517, hy_524⟩ := h_517
          replace hy_524 := hy_524.symm
          subst hy_524
          replace h_517 : r_518 = oM_held ((w_315 ((27 + 5 * 0) + 4)) - 10) := h_517
          subst h_517
          refine gm_vst C hW_522 hS_523 ((27 + 5 * 0) + 4) (nI_clamp (by omega)) (vp_in_nI (show (27 + 5 * 0) + 4 < 128 by omega) (by decide)) dX8_passes_134 (fun H_525 locs_526 hW_527 hS_528 => ?_)
          obtain ⟨w_529, ew_529⟩ : ∃ Z9, Z9 = upd w_315 ((27 + 5 * 0) + 4) (oM_held ((w_315 ((27 + 5 * 0) + 4)) - 10)) := ⟨_, rfl⟩
          have hW_530 : Wd G (setRow (setRow X 15 (X.1 15)) 16 w_529) H_525 := Wd.cast (by rw [ew_529]; exact st_out) hW_527
          refine lv_iinc (v := 1) (lv' := [(3, .int 1), (2, .int (nI kk)), (0, .ref (ad G 723)), (1, .int (nI dd))]) hx hb dX8_passes_135 hl_320 (k := 0) rfl (by decide) (by decide) rfl (fun ls_531 hl_532 => ?_)
          refine lv_goto (tgt := 91) hx hb dX8_passes_138 (by decide) ?_
          refine lv_iload_n hx hb dX8_passes_91 rfl (lv_at hl_532 0 rfl) ?_
          refine lv_iconst (v := 3) hx hb dX8_passes_92 (by decide) ?_
          refine lv_icmp_ge (tgt := 141) hx hb dX8_passes_93 (by decide) (fun h9 => absurd h9 (by decide)) (fun _ => ?_)
          refine lv_aload_n hx hb dX8_passes_96 rfl (lv_at hl_532 2 rfl) ?_
          refine lv_iload_n hx hb dX8_passes_97 rfl (lv_at hl_532 0 rfl) ?_
          refine g_calli (va_runS (As := [.int 1]) (rest := [.ref (ad G 723)]) C.1 (cX8_ladle_ok l G (setRow (setRow X 15 (X.1 15)) 16 w_529) 1) (va_cwS 1 C.1.2.2.2.2 (gS qw_1473 qw_1474 qw_81 qw_1475) rfl rfl rfl (by decide +kernel) ⟨Nat.le_of_ble_eq_true rfl, Nat.le_of_ble_eq_true rfl⟩) (g_pre C hW_530 hS_528 [.int 1]) rfl rfl hl_532.1 rfl (lv_room (Nat.le_of_ble_eq_true rfl)) dX8_passes_98 ⟨Nat.zero_le _, Nat.zero_le _⟩) hS_528 (fun r_534 Y_535 H_536 locs_537 hW_538 hS_539 h_533 => ?_)
          obtain ⟨h_533, hy_540⟩ := h_533
          replace hy_540 := hy_540.symm
          subst hy_540
          replace h_533 : r_534 = oM_ladle 1 := h_533
          subst h_533
          refine g_top (y := nI (27 + 5 * 1)) (at_ladle 1) ?_
          refine g_calli (va_runV (As := [.int (nI (27 + 5 * 1))]) (rest := []) C.1 (cX8_mass_ok l G (setRow (setRow X 15 (X.1 15)) 16 w_529) (27 + 5 * 1) (show 27 + 5 * 1 + 4 ≤ 128 by omega)) (cwV 1 C.1.2.2.2.2 (gV qw_1575 qw_1577 qw_32 qw_81 qw_1578) rfl rfl rfl (by decide +kernel) ⟨Nat.le_of_ble_eq_true rfl, Nat.le_of_ble_eq_true rfl⟩) (g_rModel C hW_538 hS_539 [.int (nI (27 + 5 * 1))]) rfl rfl hl_532.1 rfl (lv_room (Nat.le_of_ble_eq_true rfl)) dX8_passes_101 ⟨Nat.zero_le _, Nat.zero_le _⟩) hS_539 (fun r_542 Y_543 H_544 locs_545 hW_546 hS_547 h_541 => ?_)
          obtain ⟨h_541, hy_548⟩ := h_541
          replace hy_548 := hy_548.symm
          subst hy_548
          replace h_541 : r_542 = oM_mass w_529 (27 + 5 * 1) := h_541
          subst h_541
          refine lv_if_le (tgt := 135) hx hb dX8_passes_104 (by decide) (fun b_549 => ?_) (fun b_549 => ?_)
          · refine lv_iinc (v := 2) (lv' := [(3, .int 2), (2, .int (nI kk)), (0, .ref (ad G 723)), (1, .int (nI dd))]) hx hb dX8_passes_135 hl_532 (k := 0) rfl (by decide) (by decide) rfl (fun ls_550 hl_551 => ?_)
            refine lv_goto (tgt := 91) hx hb dX8_passes_138 (by decide) ?_
            refine lv_iload_n hx hb dX8_passes_91 rfl (lv_at hl_551 0 rfl) ?_
            refine lv_iconst (v := 3) hx hb dX8_passes_92 (by decide) ?_
            refine lv_icmp_ge (tgt := 141) hx hb dX8_passes_93 (by decide) (fun h9 => absurd h9 (by decide)) (fun _ => ?_)
            refine lv_aload_n hx hb dX8_passes_96 rfl (lv_at hl_551 2 rfl) ?_
            refine lv_iload_n hx hb dX8_passes_97 rfl (lv_at hl_551 0 rfl) ?_
            refine g_calli (va_runS (As := [.int 2]) (rest := [.ref (ad G 723)]) C.1 (cX8_ladle_ok l G (setRow (setRow X 15 (X.1 15)) 16 w_529) 2) (va_cwS 1 C.1.2.2.2.2 (gS qw_1473 qw_1474 qw_81 qw_1475) rfl rfl rfl (by decide +kernel) ⟨Nat.le_of_ble_eq_true rfl, Nat.le_of_ble_eq_true rfl⟩) (g_pre C hW_546 hS_547 [.int 2]) rfl rfl hl_551.1 rfl (lv_room (Nat.le_of_ble_eq_true rfl)) dX8_passes_98 ⟨Nat.zero_le _, Nat.zero_le _⟩) hS_547 (fun r_553 Y_554 H_555 locs_556 hW_557 hS_558 h_552 => ?_)
            obtain ⟨h_552, hy_559⟩ := h_552
            replace hy_559 := hy_559.symm
            subst hy_559
            replace h_552 : r_553 = oM_ladle 2 := h_552
            subst h_552
            refine g_top (y := nI (27 + 5 * 2)) (at_ladle 2) ?_
            refine g_calli (va_runV (As := [.int (nI (27 + 5 * 2))]) (rest := []) C.1 (cX8_mass_ok l G (setRow (setRow X 15 (X.1 15)) 16 w_529) (27 + 5 * 2) (show 27 + 5 * 2 + 4 ≤ 128 by omega)) (cwV 1 C.1.2.2.2.2 (gV qw_1575 qw_1577 qw_32 qw_81 qw_1578) rfl rfl rfl (by decide +kernel) ⟨Nat.le_of_ble_eq_true rfl, Nat.le_of_ble_eq_true rfl⟩) (g_rModel C hW_557 hS_558 [.int (nI (27 + 5 * 2))]) rfl rfl hl_551.1 rfl (lv_room (Nat.le_of_ble_eq_true rfl)) dX8_passes_101 ⟨Nat.zero_le _, Nat.zero_le _⟩) hS_558 (fun r_561 Y_562 H_563 locs_564 hW_565 hS_566 h_560 => ?_)
            obtain ⟨h_560, hy_567⟩ := h_560
            replace hy_567 := hy_567.symm
            subst hy_567
            replace h_560 : r_561 = oM_mass w_529 (27 + 5 * 2) := h_560
            subst h_560
            refine lv_if_le (tgt := 135) hx hb dX8_passes_104 (by decide) (fun b_568 => ?_) (fun b_568 => ?_)
            · refine lv_iinc (v := 3) (lv' := [(3, .int 3), (2, .int (nI kk)), (0, .ref (ad G 723)), (1, .int (nI dd))]) hx hb dX8_passes_135 hl_551 (k := 0) rfl (by decide) (by decide) rfl (fun ls_569 hl_570 => ?_)
              refine lv_goto (tgt := 91) hx hb dX8_passes_138 (by decide) ?_
              refine lv_iload_n hx hb dX8_passes_91 rfl (lv_at hl_570 0 rfl) ?_
              refine lv_iconst (v := 3) hx hb dX8_passes_92 (by decide) ?_
              refine lv_icmp_ge (tgt := 141) hx hb dX8_passes_93 (by decide) (fun _ => ?_) (fun h9 => absurd h9 (by decide))
              refine lv_iinc (v := nI (kk + 1)) (lv' := [(2, .int (nI (kk + 1))), (3, .int 3), (0, .ref (ad G 723)), (1, .int (nI dd))]) hx hb dX8_passes_141 hl_570 (k := 1) rfl (nI_1 kk) (by decide) rfl (fun ls_571 hl_572 => ?_)
              refine lv_goto (tgt := 19) hx hb dX8_passes_144 (by decide) ?_
              exact ih (kk + 1) w_529 H_563 locs_564 ls_571 (by omega) (by rw [← hf, itMM]; refine congrArg (itMM _) ?_; symm; simp only [minuteM, furM, ← ew_195, ← ew_235, ← ew_275, ← ew_315, ← ew_529, (show ladM w_315 0 = w_529 from (if_neg b_337).trans ew_529.symm), (show ladM w_529 1 = w_529 from if_pos b_549), (show ladM w_529 2 = w_529 from if_pos b_568)]) hW_565 hS_566 (lv_sub hl_572 [0, 2, 3] rfl)
            · refine lv_aload_n hx hb dX8_passes_107 rfl (lv_at hl_551 2 rfl) ?_
              refine gM_v C hW_565 (hwc hwX8) (mc qw_1481) dX8_passes_108 ?_
              refine lv_iload_n hx hb dX8_passes_111 rfl (lv_at hl_551 0 rfl) ?_
              refine g_calli (va_runS (As := [.int 2]) (rest := [.ref (ad G 724)]) C.1 (cX8_ladle_ok l G (setRow (setRow X 15 (X.1 15)) 16 w_529) 2) (va_cwS 1 C.1.2.2.2.2 (gS qw_1473 qw_1474 qw_81 qw_1475) rfl rfl rfl (by decide +kernel) ⟨Nat.le_of_ble_eq_true rfl, Nat.le_of_ble_eq_true rfl⟩) (g_pre C hW_565 hS_566 [.int 2]) rfl rfl hl_551.1 rfl (lv_room (Nat.le_of_ble_eq_true rfl)) dX8_passes_112 ⟨Nat.zero_le _, Nat.zero_le _⟩) hS_566 (fun r_574 Y_575 H_576 locs_577 hW_578 hS_579 h_573 => ?_)
              obtain ⟨h_573, hy_580⟩ := h_573
              replace hy_580 := hy_580.symm
              subst hy_580
              replace h_573 : r_574 = oM_ladle 2 := h_573
              subst h_573
              refine g_top (y := nI (27 + 5 * 2)) (at_ladle 2) ?_
              refine lv_iconst (v := 4) hx hb dX8_passes_115 (by decide) ?_
              refine lv_iadd hx hb dX8_passes_116 ?_
              refine g_top (y := nI ((27 + 5 * 2) + 4)) (nI_add (27 + 5 * 2) 4) ?_
              refine lv_aload_n hx hb dX8_passes_117 rfl (lv_at hl_551 2 rfl) ?_
              refine gM_v C hW_578 (hwc hwX8) (mc qw_1481) dX8_passes_118 ?_
              refine lv_iload_n hx hb dX8_passes_121 rfl (lv_at hl_551 0 rfl) ?_
              refine g_calli (va_runS (As := [.int 2]) (rest := [.ref (ad G 724), .int (nI ((27 + 5 * 2) + 4)), .ref (ad G 724)]) C.1 (cX8_ladle_ok l G (setRow (setRow X 15 (X.1 15)) 16 w_529) 2) (va_cwS 1 C.1.2.2.2.2 (gS qw_1473 qw_1474 qw_81 qw_1475) rfl rfl rfl (by decide +kernel) ⟨Nat.le_of_ble_eq_true rfl, Nat.le_of_ble_eq_true rfl⟩) (g_pre C hW_578 hS_579 [.int 2]) rfl rfl hl_551.1 rfl (lv_room (Nat.le_of_ble_eq_true rfl)) dX8_passes_122 ⟨Nat.zero_le _, Nat.zero_le _⟩) hS_579 (fun r_582 Y_583 H_584 locs_585 hW_586 hS_587 h_581 => ?_)
              obtain ⟨h_581, hy_588⟩ := h_581
              replace hy_588 := hy_588.symm
              subst hy_588
              replace h_581 : r_582 = oM_ladle 2 := h_581
              subst h_581
              refine g_top (y := nI (27 + 5 * 2)) (at_ladle 2) ?_
              refine lv_iconst (v := 4) hx hb dX8_passes_125 (by decide) ?_
              refine lv_iadd hx hb dX8_passes_126 ?_
              refine g_top (y := nI ((27 + 5 * 2) + 4)) (nI_add (27 + 5 * 2) 4) ?_
              refine gm_vld C hW_586 ((27 + 5 * 2) + 4) (nI_clamp (by omega)) (vp_in_nI (show (27 + 5 * 2) + 4 < 128 by omega) (by decide)) dX8_passes_127 ?_
              refine g_top (y := w_529 ((27 + 5 * 2) + 4)) (congrFun rd_out _) ?_
              refine lv_bipush (v := 10) hx hb dX8_passes_128 (by decide) ?_
              refine lv_isub hx hb dX8_passes_130 ?_
              refine g_calli (va_runS (As := [.int ((w_529 ((27 + 5 * 2) + 4)) - 10)]) (rest := [.int (nI ((27 + 5 * 2) + 4)), .ref (ad G 724)]) C.1 (cX8_held_ok l G (setRow (setRow X 15 (X.1 15)) 16 w_529) ((w_529 ((27 + 5 * 2) + 4)) - 10)) (va_cwS 1 C.1.2.2.2.2 (gS qw_1701 qw_1702 qw_81 qw_1703) rfl rfl rfl (by decide +kernel) ⟨Nat.le_of_ble_eq_true rfl, Nat.le_of_ble_eq_true rfl⟩) (g_pre C hW_586 hS_587 [.int ((w_529 ((27 + 5 * 2) + 4)) - 10)]) rfl rfl hl_551.1 rfl (lv_room (Nat.le_of_ble_eq_true rfl)) dX8_passes_131 ⟨Nat.zero_le _, Nat.zero_le _⟩) hS_587 (fun r_590 Y_591 H_592 locs_593 hW_594 hS_595 h_589 => ?_)
              obtain ⟨h_589, hy_596⟩ := h_589
              replace hy_596 := hy_596.symm
              subst hy_596
              replace h_589 : r_590 = oM_held ((w_529 ((27 + 5 * 2) + 4)) - 10) := h_589
              subst h_589
              refine gm_vst C hW_594 hS_595 ((27 + 5 * 2) + 4) (nI_clamp (by omega)) (vp_in_nI (show (27 + 5 * 2) + 4 < 128 by omega) (by decide)) dX8_passes_134 (fun H_597 locs_598 hW_599 hS_600 => ?_)
              obtain ⟨w_601, ew_601⟩ : ∃ Z9, Z9 = upd w_529 ((27 + 5 * 2) + 4) (oM_held ((w_529 ((27 + 5 * 2) + 4)) - 10)) := ⟨_, rfl⟩
              have hW_602 : Wd G (setRow (setRow X 15 (X.1 15)) 16 w_601) H_597 := Wd.cast (by rw [ew_601]; exact st_out) hW_599
              refine lv_iinc (v := 3) (lv' := [(3, .int 3), (2, .int (nI kk)), (0, .ref (ad G 723)), (1, .int (nI dd))]) hx hb dX8_passes_135 hl_551 (k := 0) rfl (by decide) (by decide) rfl (fun ls_603 hl_604 => ?_)
              refine lv_goto (tgt := 91) hx hb dX8_passes_138 (by decide) ?_
              refine lv_iload_n hx hb dX8_passes_91 rfl (lv_at hl_604 0 rfl) ?_
              refine lv_iconst (v := 3) hx hb dX8_passes_92 (by decide) ?_
              refine lv_icmp_ge (tgt := 141) hx hb dX8_passes_93 (by decide) (fun _ => ?_) (fun h9 => absurd h9 (by decide))
              refine lv_iinc (v := nI (kk + 1)) (lv' := [(2, .int (nI (kk + 1))), (3, .int 3), (0, .ref (ad G 723)), (1, .int (nI dd))]) hx hb dX8_passes_141 hl_604 (k := 1) rfl (nI_1 kk) (by decide) rfl (fun ls_605 hl_606 => ?_)
              refine lv_goto (tgt := 19) hx hb dX8_passes_144 (by decide) ?_
              exact ih (kk + 1) w_601 H_597 locs_598 ls_605 (by omega) (by rw [← hf, itMM]; refine congrArg (itMM _) ?_; symm; simp only [minuteM, furM, ← ew_195, ← ew_235, ← ew_275, ← ew_315, ← ew_529, ← ew_601, (show ladM w_315 0 = w_529 from (if_neg b_337).trans ew_529.symm), (show ladM w_529 1 = w_529 from if_pos b_549), (show ladM w_529 2 = w_601 from (if_neg b_568).trans ew_601.symm)]) hW_602 hS_600 (lv_sub hl_606 [0, 2, 3] rfl)
          · refine lv_aload_n hx hb dX8_passes_107 rfl (lv_at hl_532 2 rfl) ?_
            refine gM_v C hW_546 (hwc hwX8) (mc qw_1481) dX8_passes_108 ?_
            refine lv_iload_n hx hb dX8_passes_111 rfl (lv_at hl_532 0 rfl) ?_
            refine g_calli (va_runS (As := [.int 1]) (rest := [.ref (ad G 724)]) C.1 (cX8_ladle_ok l G (setRow (setRow X 15 (X.1 15)) 16 w_529) 1) (va_cwS 1 C.1.2.2.2.2 (gS qw_1473 qw_1474 qw_81 qw_1475) rfl rfl rfl (by decide +kernel) ⟨Nat.le_of_ble_eq_true rfl, Nat.le_of_ble_eq_true rfl⟩) (g_pre C hW_546 hS_547 [.int 1]) rfl rfl hl_532.1 rfl (lv_room (Nat.le_of_ble_eq_true rfl)) dX8_passes_112 ⟨Nat.zero_le _, Nat.zero_le _⟩) hS_547 (fun r_608 Y_609 H_610 locs_611 hW_612 hS_613 h_607 => ?_)
            obtain ⟨h_607, hy_614⟩ := h_607
            replace hy_614 := hy_614.symm
            subst hy_614
            replace h_607 : r_608 = oM_ladle 1 := h_607
            subst h_607
            refine g_top (y := nI (27 + 5 * 1)) (at_ladle 1) ?_
            refine lv_iconst (v := 4) hx hb dX8_passes_115 (by decide) ?_
            refine lv_iadd hx hb dX8_passes_116 ?_
            refine g_top (y := nI ((27 + 5 * 1) + 4)) (nI_add (27 + 5 * 1) 4) ?_
            refine lv_aload_n hx hb dX8_passes_117 rfl (lv_at hl_532 2 rfl) ?_
            refine gM_v C hW_612 (hwc hwX8) (mc qw_1481) dX8_passes_118 ?_
            refine lv_iload_n hx hb dX8_passes_121 rfl (lv_at hl_532 0 rfl) ?_
            refine g_calli (va_runS (As := [.int 1]) (rest := [.ref (ad G 724), .int (nI ((27 + 5 * 1) + 4)), .ref (ad G 724)]) C.1 (cX8_ladle_ok l G (setRow (setRow X 15 (X.1 15)) 16 w_529) 1) (va_cwS 1 C.1.2.2.2.2 (gS qw_1473 qw_1474 qw_81 qw_1475) rfl rfl rfl (by decide +kernel) ⟨Nat.le_of_ble_eq_true rfl, Nat.le_of_ble_eq_true rfl⟩) (g_pre C hW_612 hS_613 [.int 1]) rfl rfl hl_532.1 rfl (lv_room (Nat.le_of_ble_eq_true rfl)) dX8_passes_122 ⟨Nat.zero_le _, Nat.zero_le _⟩) hS_613 (fun r_616 Y_617 H_618 locs_619 hW_620 hS_621 h_615 => ?_)
            obtain ⟨h_615, hy_622⟩ := h_615
            replace hy_622 := hy_622.symm
            subst hy_622
            replace h_615 : r_616 = oM_ladle 1 := h_615
            subst h_615
            refine g_top (y := nI (27 + 5 * 1)) (at_ladle 1) ?_
            refine lv_iconst (v := 4) hx hb dX8_passes_125 (by decide) ?_
            refine lv_iadd hx hb dX8_passes_126 ?_
            refine g_top (y := nI ((27 + 5 * 1) + 4)) (nI_add (27 + 5 * 1) 4) ?_
            refine gm_vld C hW_620 ((27 + 5 * 1) + 4) (nI_clamp (by omega)) (vp_in_nI (show (27 + 5 * 1) + 4 < 128 by omega) (by decide)) dX8_passes_127 ?_
            refine g_top (y := w_529 ((27 + 5 * 1) + 4)) (congrFun rd_out _) ?_
            refine lv_bipush (v := 10) hx hb dX8_passes_128 (by decide) ?_
            refine lv_isub hx hb dX8_passes_130 ?_
            refine g_calli (va_runS (As := [.int ((w_529 ((27 + 5 * 1) + 4)) - 10)]) (rest := [.int (nI ((27 + 5 * 1) + 4)), .ref (ad G 724)]) C.1 (cX8_held_ok l G (setRow (setRow X 15 (X.1 15)) 16 w_529) ((w_529 ((27 + 5 * 1) + 4)) - 10)) (va_cwS 1 C.1.2.2.2.2 (gS qw_1701 qw_1702 qw_81 qw_1703) rfl rfl rfl (by decide +kernel) ⟨Nat.le_of_ble_eq_true rfl, Nat.le_of_ble_eq_true rfl⟩) (g_pre C hW_620 hS_621 [.int ((w_529 ((27 + 5 * 1) + 4)) - 10)]) rfl rfl hl_532.1 rfl (lv_room (Nat.le_of_ble_eq_true rfl)) dX8_passes_131 ⟨Nat.zero_le _, Nat.zero_le _⟩) hS_621 (fun r_624 Y_625 H_626 locs_627 hW_628 hS_629 h_623 => ?_)
            obtain ⟨h_623, hy_630⟩ := h_623
            replace hy_630 := hy_630.symm
            subst hy_630
            replace h_623 : r_624 = oM_held ((w_529 ((27 + 5 * 1) + 4)) - 10) := h_623
            subst h_623
            refine gm_vst C hW_628 hS_629 ((27 + 5 * 1) + 4) (nI_clamp (by omega)) (vp_in_nI (show (27 + 5 * 1) + 4 < 128 by omega) (by decide)) dX8_passes_134 (fun H_631 locs_632 hW_633 hS_634 => ?_)
            obtain ⟨w_635, ew_635⟩ : ∃ Z9, Z9 = upd w_529 ((27 + 5 * 1) + 4) (oM_held ((w_529 ((27 + 5 * 1) + 4)) - 10)) := ⟨_, rfl⟩
            have hW_636 : Wd G (setRow (setRow X 15 (X.1 15)) 16 w_635) H_631 := Wd.cast (by rw [ew_635]; exact st_out) hW_633
            refine lv_iinc (v := 2) (lv' := [(3, .int 2), (2, .int (nI kk)), (0, .ref (ad G 723)), (1, .int (nI dd))]) hx hb dX8_passes_135 hl_532 (k := 0) rfl (by decide) (by decide) rfl (fun ls_637 hl_638 => ?_)
            refine lv_goto (tgt := 91) hx hb dX8_passes_138 (by decide) ?_
            refine lv_iload_n hx hb dX8_passes_91 rfl (lv_at hl_638 0 rfl) ?_
            refine lv_iconst (v := 3) hx hb dX8_passes_92 (by decide) ?_
            refine lv_icmp_ge (tgt := 141) hx hb dX8_passes_93 (by decide) (fun h9 => absurd h9 (by decide)) (fun _ => ?_)
            refine lv_aload_n hx hb dX8_passes_96 rfl (lv_at hl_638 2 rfl) ?_
            refine lv_iload_n hx hb dX8_passes_97 rfl (lv_at hl_638 0 rfl) ?_
            refine g_calli (va_runS (As := [.int 2]) (rest := [.ref (ad G 723)]) C.1 (cX8_ladle_ok l G (setRow (setRow X 15 (X.1 15)) 16 w_635) 2) (va_cwS 1 C.1.2.2.2.2 (gS qw_1473 qw_1474 qw_81 qw_1475) rfl rfl rfl (by decide +kernel) ⟨Nat.le_of_ble_eq_true rfl, Nat.le_of_ble_eq_true rfl⟩) (g_pre C hW_636 hS_634 [.int 2]) rfl rfl hl_638.1 rfl (lv_room (Nat.le_of_ble_eq_true rfl)) dX8_passes_98 ⟨Nat.zero_le _, Nat.zero_le _⟩) hS_634 (fun r_640 Y_641 H_642 locs_643 hW_644 hS_645 h_639 => ?_)
            obtain ⟨h_639, hy_646⟩ := h_639
            replace hy_646 := hy_646.symm
            subst hy_646
            replace h_639 : r_640 = oM_ladle 2 := h_639
            subst h_639
            refine g_top (y := nI (27 + 5 * 2)) (at_ladle 2) ?_
            refine g_calli (va_runV (As := [.int (nI (27 + 5 * 2))]) (rest := []) C.1 (cX8_mass_ok l G (setRow (setRow X 15 (X.1 15)) 16 w_635) (27 + 5 * 2) (show 27 + 5 * 2 + 4 ≤ 128 by omega)) (cwV 1 C.1.2.2.2.2 (gV qw_1575 qw_1577 qw_32 qw_81 qw_1578) rfl rfl rfl (by decide +kernel) ⟨Nat.le_of_ble_eq_true rfl, Nat.le_of_ble_eq_true rfl⟩) (g_rModel C hW_644 hS_645 [.int (nI (27 + 5 * 2))]) rfl rfl hl_638.1 rfl (lv_room (Nat.le_of_ble_eq_true rfl)) dX8_passes_101 ⟨Nat.zero_le _, Nat.zero_le _⟩) hS_645 (fun r_648 Y_649 H_650 locs_651 hW_652 hS_653 h_647 => ?_)
            obtain ⟨h_647, hy_654⟩ := h_647
            replace hy_654 := hy_654.symm
            subst hy_654
            replace h_647 : r_648 = oM_mass w_635 (27 + 5 * 2) := h_647
            subst h_647
            refine lv_if_le (tgt := 135) hx hb dX8_passes_104 (by decide) (fun b_655 => ?_) (fun b_655 => ?_)
            · refine lv_iinc (v := 3) (lv' := [(3, .int 3), (2, .int (nI kk)), (0, .ref (ad G 723)), (1, .int (nI dd))]) hx hb dX8_passes_135 hl_638 (k := 0) rfl (by decide) (by decide) rfl (fun ls_656 hl_657 => ?_)
              refine lv_goto (tgt := 91) hx hb dX8_passes_138 (by decide) ?_
              refine lv_iload_n hx hb dX8_passes_91 rfl (lv_at hl_657 0 rfl) ?_
              refine lv_iconst (v := 3) hx hb dX8_passes_92 (by decide) ?_
              refine lv_icmp_ge (tgt := 141) hx hb dX8_passes_93 (by decide) (fun _ => ?_) (fun h9 => absurd h9 (by decide))
              refine lv_iinc (v := nI (kk + 1)) (lv' := [(2, .int (nI (kk + 1))), (3, .int 3), (0, .ref (ad G 723)), (1, .int (nI dd))]) hx hb dX8_passes_141 hl_657 (k := 1) rfl (nI_1 kk) (by decide) rfl (fun ls_658 hl_659 => ?_)
              refine lv_goto (tgt := 19) hx hb dX8_passes_144 (by decide) ?_
              exact ih (kk + 1) w_635 H_650 locs_651 ls_658 (by omega) (by rw [← hf, itMM]; refine congrArg (itMM _) ?_; symm; simp only [minuteM, furM, ← ew_195, ← ew_235, ← ew_275, ← ew_315, ← ew_529, ← ew_635, (show ladM w_315 0 = w_529 from (if_neg b_337).trans ew_529.symm), (show ladM w_529 1 = w_635 from (if_neg b_549).trans ew_635.symm), (show ladM w_635 2 = w_635 from if_pos b_655)]) hW_652 hS_653 (lv_sub hl_659 [0, 2, 3] rfl)
            · refine lv_aload_n hx hb dX8_passes_107 rfl (lv_at hl_638 2 rfl) ?_
              refine gM_v C hW_652 (hwc hwX8) (mc qw_1481) dX8_passes_108 ?_
              refine lv_iload_n hx hb dX8_passes_111 rfl (lv_at hl_638 0 rfl) ?_
              refine g_calli (va_runS (As := [.int 2]) (rest := [.ref (ad G 724)]) C.1 (cX8_ladle_ok l G (setRow (setRow X 15 (X.1 15)) 16 w_635) 2) (va_cwS 1 C.1.2.2.2.2 (gS qw_1473 qw_1474 qw_81 qw_1475) rfl rfl rfl (by decide +kernel) ⟨Nat.le_of_ble_eq_true rfl, Nat.le_of_ble_eq_true rfl⟩) (g_pre C hW_652 hS_653 [.int 2]) rfl rfl hl_638.1 rfl (lv_room (Nat.le_of_ble_eq_true rfl)) dX8_passes_112 ⟨Nat.zero_le _, Nat.zero_le _⟩) hS_653 (fun r_661 Y_662 H_663 locs_664 hW_665 hS_666 h_660 => ?_)
              obtain ⟨h_660, hy_667⟩ := h_660
              replace hy_667 := hy_667.symm
              subst hy_667
              replace h_660 : r_661 = oM_ladle 2 := h_660
              subst h_660
              refine g_top (y := nI (27 + 5 * 2)) (at_ladle 2) ?_
              refine lv_iconst (v := 4) hx hb dX8_passes_115 (by decide) ?_
              refine lv_iadd hx hb dX8_passes_116 ?_
              refine g_top (y := nI ((27 + 5 * 2) + 4)) (nI_add (27 + 5 * 2) 4) ?_
              refine lv_aload_n hx hb dX8_passes_117 rfl (lv_at hl_638 2 rfl) ?_
              refine gM_v C hW_665 (hwc hwX8) (mc qw_1481) dX8_passes_118 ?_
              refine lv_iload_n hx hb dX8_passes_121 rfl (lv_at hl_638 0 rfl) ?_
              refine g_calli (va_runS (As := [.int 2]) (rest := [.ref (ad G 724), .int (nI ((27 + 5 * 2) + 4)), .ref (ad G 724)]) C.1 (cX8_ladle_ok l G (setRow (setRow X 15 (X.1 15)) 16 w_635) 2) (va_cwS 1 C.1.2.2.2.2 (gS qw_1473 qw_1474 qw_81 qw_1475) rfl rfl rfl (by decide +kernel) ⟨Nat.le_of_ble_eq_true rfl, Nat.le_of_ble_eq_true rfl⟩) (g_pre C hW_665 hS_666 [.int 2]) rfl rfl hl_638.1 rfl (lv_room (Nat.le_of_ble_eq_true rfl)) dX8_passes_122 ⟨Nat.zero_le _, Nat.zero_le _⟩) hS_666 (fun r_669 Y_670 H_671 locs_672 hW_673 hS_674 h_668 => ?_)
              obtain ⟨h_668, hy_675⟩ := h_668
              replace hy_675 := hy_675.symm
              subst hy_675
              replace h_668 : r_669 = oM_ladle 2 := h_668
              subst h_668
              refine g_top (y := nI (27 + 5 * 2)) (at_ladle 2) ?_
              refine lv_iconst (v := 4) hx hb dX8_passes_125 (by decide) ?_
              refine lv_iadd hx hb dX8_passes_126 ?_
              refine g_top (y := nI ((27 + 5 * 2) + 4)) (nI_add (27 + 5 * 2) 4) ?_
              refine gm_vld C hW_673 ((27 + 5 * 2) + 4) (nI_clamp (by omega)) (vp_in_nI (show (27 + 5 * 2) + 4 < 128 by omega) (by decide)) dX8_passes_127 ?_
              refine g_top (y := w_635 ((27 + 5 * 2) + 4)) (congrFun rd_out _) ?_
              refine lv_bipush (v := 10) hx hb dX8_passes_128 (by decide) ?_
              refine lv_isub hx hb dX8_passes_130 ?_
              refine g_calli (va_runS (As := [.int ((w_635 ((27 + 5 * 2) + 4)) - 10)]) (rest := [.int (nI ((27 + 5 * 2) + 4)), .ref (ad G 724)]) C.1 (cX8_held_ok l G (setRow (setRow X 15 (X.1 15)) 16 w_635) ((w_635 ((27 + 5 * 2) + 4)) - 10)) (va_cwS 1 C.1.2.2.2.2 (gS qw_1701 qw_1702 qw_81 qw_1703) rfl rfl rfl (by decide +kernel) ⟨Nat.le_of_ble_eq_true rfl, Nat.le_of_ble_eq_true rfl⟩) (g_pre C hW_673 hS_674 [.int ((w_635 ((27 + 5 * 2) + 4)) - 10)]) rfl rfl hl_638.1 rfl (lv_room (Nat.le_of_ble_eq_true rfl)) dX8_passes_131 ⟨Nat.zero_le _, Nat.zero_le _⟩) hS_674 (fun r_677 Y_678 H_679 locs_680 hW_681 hS_682 h_676 => ?_)
              obtain ⟨h_676, hy_683⟩ := h_676
              replace hy_683 := hy_683.symm
              subst hy_683
              replace h_676 : r_677 = oM_held ((w_635 ((27 + 5 * 2) + 4)) - 10) := h_676
              subst h_676
              refine gm_vst C hW_681 hS_682 ((27 + 5 * 2) + 4) (nI_clamp (by omega)) (vp_in_nI (show (27 + 5 * 2) + 4 < 128 by omega) (by decide)) dX8_passes_134 (fun H_684 locs_685 hW_686 hS_687 => ?_)
              obtain ⟨w_688, ew_688⟩ : ∃ Z9, Z9 = upd w_635 ((27 + 5 * 2) + 4) (oM_held ((w_635 ((27 + 5 * 2) + 4)) - 10)) := ⟨_, rfl⟩
              have hW_689 : Wd G (setRow (setRow X 15 (X.1 15)) 16 w_688) H_684 := Wd.cast (by rw [ew_688]; exact st_out) hW_686
              refine lv_iinc (v := 3) (lv' := [(3, .int 3), (2, .int (nI kk)), (0, .ref (ad G 723)), (1, .int (nI dd))]) hx hb dX8_passes_135 hl_638 (k := 0) rfl (by decide) (by decide) rfl (fun ls_690 hl_691 => ?_)
              refine lv_goto (tgt := 91) hx hb dX8_passes_138 (by decide) ?_
              refine lv_iload_n hx hb dX8_passes_91 rfl (lv_at hl_691 0 rfl) ?_
              refine lv_iconst (v := 3) hx hb dX8_passes_92 (by decide) ?_
              refine lv_icmp_ge (tgt := 141) hx hb dX8_passes_93 (by decide) (fun _ => ?_) (fun h9 => absurd h9 (by decide))
              refine lv_iinc (v := nI (kk + 1)) (lv' := [(2, .int (nI (kk + 1))), (3, .int 3), (0, .ref (ad G 723)), (1, .int (nI dd))]) hx hb dX8_passes_141 hl_691 (k := 1) rfl (nI_1 kk) (by decide) rfl (fun ls_692 hl_693 => ?_)
              refine lv_goto (tgt := 19) hx hb dX8_passes_144 (by decide) ?_
              exact ih (kk + 1) w_688 H_684 locs_685 ls_692 (by omega) (by rw [← hf, itMM]; refine congrArg (itMM _) ?_; symm; simp only [minuteM, furM, ← ew_195, ← ew_235, ← ew_275, ← ew_315, ← ew_529, ← ew_635, ← ew_688, (show ladM w_315 0 = w_529 from (if_neg b_337).trans ew_529.symm), (show ladM w_529 1 = w_635 from (if_neg b_549).trans ew_635.symm), (show ladM w_635 2 = w_688 from (if_neg b_655).trans ew_688.symm)]) hW_689 hS_687 (lv_sub hl_693 [0, 2, 3] rfl)
    exact loop dd 0 (X.1 16) H_4 locs_5 ls_10 (by omega) rfl hW_6 hS_7 (lv_sub hl_11 [0, 1, 2] rfl)
  · refine lv_aload_n hx hb dX8_passes_11 rfl (lv_at hl 0 rfl) ?_
    refine lv_iconst (v := 1) hx hb dX8_passes_12 (by decide) ?_
    refine g_calli (va_runV (As := [.int 1]) (rest := []) C.1 (cX8_fail_ok l G (setRow (setRow X 15 (X.1 15)) 16 (X.1 16)) 1) (cwV 1 C.1.2.2.2.2 (gV qw_1571 qw_1573 qw_31 qw_81 qw_1574) rfl rfl rfl (by decide +kernel) ⟨Nat.le_of_ble_eq_true rfl, Nat.le_of_ble_eq_true rfl⟩) (g_rModel C hW_6 hS_7 [.int 1]) rfl rfl hl.1 rfl (lv_room (Nat.le_of_ble_eq_true rfl)) dX8_passes_13 ⟨Nat.zero_le _, Nat.zero_le _⟩) hS_7 (fun r_695 Y_696 H_697 locs_698 hW_699 hS_700 h_694 => ?_)
    obtain ⟨h_701, h_694⟩ := h_694
    replace h_701 : r_695 = (oM_fail (X.1 15) 1).1 := h_701
    subst h_701
    replace h_694 : Y_696 = setRow (setRow (setRow X 15 (X.1 15)) 16 (X.1 16)) 15 ((oM_fail (X.1 15) 1).2) := h_694
    obtain ⟨w_702, ew_702⟩ : ∃ Z9, Z9 = (oM_fail (X.1 15) 1).2 := ⟨_, rfl⟩
    have qqw_702 : Y_696 = setRow (setRow (setRow X 15 (X.1 15)) 16 (X.1 16)) 15 w_702 := by rw [h_694, ew_702]
    have hW_703 : Wd G (setRow (setRow X 15 w_702) 16 (X.1 16)) H_697 := Wd.cast ((qqw_702).trans (congrArg (fun Z9 => Z9) (sr_in (by decide) sr_out))) hW_699
    exact g_iret C hr hlk hW_703 hS_700 dX8_passes_16 (by subst ew_702; exact ⟨(by simp only [oM_passes, eq_true b_9, if_true, if_false]), (by simp only [oM_passes, eq_true b_9, if_true, if_false])⟩)

set_option maxHeartbeats 4000000 in
set_option maxRecDepth 100000 in
theorem cX8_lays_before_v_ok (l : Launch) (G : GT) (X : St) : MetV l G yX8_lays (wsG yX8_lays cX8_lays 3 none) (rmz 0 0) [.ref (ad G 725), .ref (ad G 724)] X (fun Y => Y = setRow X 17 (cpT 128 (X.1 17) (X.1 16))) := by
  refine g_met (cc := cX8_lays) (maxL := 3) (ret := none) (by decide) rfl (Nat.le_of_ble_eq_true rfl) ?_
  intro p e s m below meth c ls C hr hlk hnm hW hl
  have hx := C.1.1
  have hb := C.1.2.1
  have hS : va_S (Ab G) s.heap s.heap [] := va_S.rf
  have hl : lv_has ls 3 [(0, .ref (ad G 725)), (1, .ref (ad G 724))] := hl
  have hW : Wd G (setRow X 17 (X.1 17)) s.heap := Wd.cast (sr_same (X := X) (r := 17) rfl).symm hW
  refine lv_iconst (v := 0) hx hb dX8_lays_0 (by decide) ?_
  refine lv_istore_n (lv' := [(2, .int 0), (0, .ref (ad G 725)), (1, .ref (ad G 724))]) hx hb dX8_lays_1 rfl hl (by decide) rfl (fun ls_1 hl_2 => ?_)
  have loop : ∀ (q : Nat) (kk : Nat) (zz : Nat → Int32) (H : Heap) (locs : List Loc) (ls : Array Slot), kk + q = 128 → zz = cpT kk (X.1 17) (X.1 16) → Wd G (setRow X 17 zz) H → va_S (Ab G) s.heap H locs → lv_has ls 3 [(2, .int (nI kk)), (0, .ref (ad G 725)), (1, .ref (ad G 724))] → W p l e (rmz 0 0) s m ([.ref (ad G 725), .ref (ad G 724)] : List Value).toArray below meth c H locs 0 0 (MQ below (Kv G (fun Y => Y = setRow X 17 (cpT 128 (X.1 17) (X.1 16)))) ([.ref (ad G 725), .ref (ad G 724)] : List Value).toArray s 0 0 (Ab G)) (F0 m 2 ls []) := by
    intro q
    induction q with
    | zero =>
      intro kk zz H locs ls hq hz hW hS hl
      have hkk : kk = 128 := by omega
      refine lv_iload_n hx hb dX8_lays_2 rfl (lv_at hl 0 rfl) ?_
      refine lv_sipush (v := 128) hx hb dX8_lays_3 (by decide) ?_
      refine lv_icmp_ge (tgt := 21) hx hb dX8_lays_6 (by decide) (fun _ => ?_) (fun h9 => absurd (nI_le (a := 128) (b := kk) (by omega) (by omega)) h9)
      exact g_vret C hr hlk hW hS dX8_lays_21 (by rw [hz, hkk])
    | succ q ih =>
      intro kk zz H locs ls hq hz hW hS hl
      refine lv_iload_n hx hb dX8_lays_2 rfl (lv_at hl 0 rfl) ?_
      refine lv_sipush (v := 128) hx hb dX8_lays_3 (by decide) ?_
      refine lv_icmp_ge (tgt := 21) hx hb dX8_lays_6 (by decide) (fun h9 => absurd h9 (nI_ge (a := kk) (b := 128) (by omega) (by omega))) (fun _ => ?_)
      refine lv_aload_n hx hb dX8_lays_9 rfl (lv_at hl 1 rfl) ?_
      refine lv_iload_n hx hb dX8_lays_10 rfl (lv_at hl 0 rfl) ?_
      refine lv_aload_n hx hb dX8_lays_11 rfl (lv_at hl 2 rfl) ?_
      refine lv_iload_n hx hb dX8_lays_12 rfl (lv_at hl 0 rfl) ?_
      refine gm_vld C hW kk (nI_clamp (by omega)) (vp_in_nI (show kk < 128 by omega) (by decide)) dX8_lays_13 ?_
      refine g_top (y := X.1 16 (kk)) (congrFun (rd_in (by decide) rfl) _) ?_
      refine gm_beforest C hW hS kk (nI_clamp (by omega)) (vp_in_nI (show kk < 128 by omega) (by decide)) dX8_lays_14 (fun H_3 locs_4 hW_5 hS_6 => ?_)
      obtain ⟨w_7, ew_7⟩ : ∃ Z9, Z9 = upd zz (kk) (X.1 16 (kk)) := ⟨_, rfl⟩
      have hW_8 : Wd G (setRow X 17 w_7) H_3 := Wd.cast (by rw [ew_7]; exact st_out) hW_5
      refine lv_iinc (v := nI (kk + 1)) (lv' := [(2, .int (nI (kk + 1))), (0, .ref (ad G 725)), (1, .ref (ad G 724))]) hx hb dX8_lays_15 hl (k := 0) rfl (nI_1 kk) (by decide) rfl (fun ls_9 hl_10 => ?_)
      refine lv_goto (tgt := 2) hx hb dX8_lays_18 (by decide) ?_
      exact ih (kk + 1) w_7 H_3 locs_4 ls_9 (by omega) (by subst ew_7; rw [hz]; exact cpT_s) hW_8 hS_6 (lv_sub hl_10 [0, 1, 2] rfl)
  exact loop 128 0 (X.1 17) s.heap [] ls_1 rfl cpT_0.symm hW hS (lv_sub hl_2 [0, 1, 2] rfl)

set_option maxHeartbeats 4000000 in
set_option maxRecDepth 100000 in
theorem cX8_lays_v_before_ok (l : Launch) (G : GT) (X : St) : MetV l G yX8_lays (wsG yX8_lays cX8_lays 3 none) (rmz 0 0) [.ref (ad G 724), .ref (ad G 725)] X (fun Y => Y = setRow X 16 (cpT 128 (X.1 16) (X.1 17))) := by
  refine g_met (cc := cX8_lays) (maxL := 3) (ret := none) (by decide) rfl (Nat.le_of_ble_eq_true rfl) ?_
  intro p e s m below meth c ls C hr hlk hnm hW hl
  have hx := C.1.1
  have hb := C.1.2.1
  have hS : va_S (Ab G) s.heap s.heap [] := va_S.rf
  have hl : lv_has ls 3 [(0, .ref (ad G 724)), (1, .ref (ad G 725))] := hl
  have hW : Wd G (setRow X 16 (X.1 16)) s.heap := Wd.cast (sr_same (X := X) (r := 16) rfl).symm hW
  refine lv_iconst (v := 0) hx hb dX8_lays_0 (by decide) ?_
  refine lv_istore_n (lv' := [(2, .int 0), (0, .ref (ad G 724)), (1, .ref (ad G 725))]) hx hb dX8_lays_1 rfl hl (by decide) rfl (fun ls_1 hl_2 => ?_)
  have loop : ∀ (q : Nat) (kk : Nat) (zz : Nat → Int32) (H : Heap) (locs : List Loc) (ls : Array Slot), kk + q = 128 → zz = cpT kk (X.1 16) (X.1 17) → Wd G (setRow X 16 zz) H → va_S (Ab G) s.heap H locs → lv_has ls 3 [(2, .int (nI kk)), (0, .ref (ad G 724)), (1, .ref (ad G 725))] → W p l e (rmz 0 0) s m ([.ref (ad G 724), .ref (ad G 725)] : List Value).toArray below meth c H locs 0 0 (MQ below (Kv G (fun Y => Y = setRow X 16 (cpT 128 (X.1 16) (X.1 17)))) ([.ref (ad G 724), .ref (ad G 725)] : List Value).toArray s 0 0 (Ab G)) (F0 m 2 ls []) := by
    intro q
    induction q with
    | zero =>
      intro kk zz H locs ls hq hz hW hS hl
      have hkk : kk = 128 := by omega
      refine lv_iload_n hx hb dX8_lays_2 rfl (lv_at hl 0 rfl) ?_
      refine lv_sipush (v := 128) hx hb dX8_lays_3 (by decide) ?_
      refine lv_icmp_ge (tgt := 21) hx hb dX8_lays_6 (by decide) (fun _ => ?_) (fun h9 => absurd (nI_le (a := 128) (b := kk) (by omega) (by omega)) h9)
      exact g_vret C hr hlk hW hS dX8_lays_21 (by rw [hz, hkk])
    | succ q ih =>
      intro kk zz H locs ls hq hz hW hS hl
      refine lv_iload_n hx hb dX8_lays_2 rfl (lv_at hl 0 rfl) ?_
      refine lv_sipush (v := 128) hx hb dX8_lays_3 (by decide) ?_
      refine lv_icmp_ge (tgt := 21) hx hb dX8_lays_6 (by decide) (fun h9 => absurd h9 (nI_ge (a := kk) (b := 128) (by omega) (by omega))) (fun _ => ?_)
      refine lv_aload_n hx hb dX8_lays_9 rfl (lv_at hl 1 rfl) ?_
      refine lv_iload_n hx hb dX8_lays_10 rfl (lv_at hl 0 rfl) ?_
      refine lv_aload_n hx hb dX8_lays_11 rfl (lv_at hl 2 rfl) ?_
      refine lv_iload_n hx hb dX8_lays_12 rfl (lv_at hl 0 rfl) ?_
      refine gm_beforeld C hW kk (nI_clamp (by omega)) (vp_in_nI (show kk < 128 by omega) (by decide)) dX8_lays_13 ?_
      refine g_top (y := X.1 17 (kk)) (congrFun (rd_in (by decide) rfl) _) ?_
      refine gm_vst C hW hS kk (nI_clamp (by omega)) (vp_in_nI (show kk < 128 by omega) (by decide)) dX8_lays_14 (fun H_3 locs_4 hW_5 hS_6 => ?_)
      obtain ⟨w_7, ew_7⟩ : ∃ Z9, Z9 = upd zz (kk) (X.1 17 (kk)) := ⟨_, rfl⟩
      have hW_8 : Wd G (setRow X 16 w_7) H_3 := Wd.cast (by rw [ew_7]; exact st_out) hW_5
      refine lv_iinc (v := nI (kk + 1)) (lv' := [(2, .int (nI (kk + 1))), (0, .ref (ad G 724)), (1, .ref (ad G 725))]) hx hb dX8_lays_15 hl (k := 0) rfl (nI_1 kk) (by decide) rfl (fun ls_9 hl_10 => ?_)
      refine lv_goto (tgt := 2) hx hb dX8_lays_18 (by decide) ?_
      exact ih (kk + 1) w_7 H_3 locs_4 ls_9 (by omega) (by subst ew_7; rw [hz]; exact cpT_s) hW_8 hS_6 (lv_sub hl_10 [0, 1, 2] rfl)
  exact loop 128 0 (X.1 16) s.heap [] ls_1 rfl cpT_0.symm hW hS (lv_sub hl_2 [0, 1, 2] rfl)

set_option maxHeartbeats 4000000 in
set_option maxRecDepth 100000 in
theorem cX8_lays_saved_v_ok (l : Launch) (G : GT) (X : St) : MetV l G yX8_lays (wsG yX8_lays cX8_lays 3 none) (rmz 0 0) [.ref (ad G 726), .ref (ad G 724)] X (fun Y => Y = setRow X 18 (cpT 128 (X.1 18) (X.1 16))) := by
  refine g_met (cc := cX8_lays) (maxL := 3) (ret := none) (by decide) rfl (Nat.le_of_ble_eq_true rfl) ?_
  intro p e s m below meth c ls C hr hlk hnm hW hl
  have hx := C.1.1
  have hb := C.1.2.1
  have hS : va_S (Ab G) s.heap s.heap [] := va_S.rf
  have hl : lv_has ls 3 [(0, .ref (ad G 726)), (1, .ref (ad G 724))] := hl
  have hW : Wd G (setRow X 18 (X.1 18)) s.heap := Wd.cast (sr_same (X := X) (r := 18) rfl).symm hW
  refine lv_iconst (v := 0) hx hb dX8_lays_0 (by decide) ?_
  refine lv_istore_n (lv' := [(2, .int 0), (0, .ref (ad G 726)), (1, .ref (ad G 724))]) hx hb dX8_lays_1 rfl hl (by decide) rfl (fun ls_1 hl_2 => ?_)
  have loop : ∀ (q : Nat) (kk : Nat) (zz : Nat → Int32) (H : Heap) (locs : List Loc) (ls : Array Slot), kk + q = 128 → zz = cpT kk (X.1 18) (X.1 16) → Wd G (setRow X 18 zz) H → va_S (Ab G) s.heap H locs → lv_has ls 3 [(2, .int (nI kk)), (0, .ref (ad G 726)), (1, .ref (ad G 724))] → W p l e (rmz 0 0) s m ([.ref (ad G 726), .ref (ad G 724)] : List Value).toArray below meth c H locs 0 0 (MQ below (Kv G (fun Y => Y = setRow X 18 (cpT 128 (X.1 18) (X.1 16)))) ([.ref (ad G 726), .ref (ad G 724)] : List Value).toArray s 0 0 (Ab G)) (F0 m 2 ls []) := by
    intro q
    induction q with
    | zero =>
      intro kk zz H locs ls hq hz hW hS hl
      have hkk : kk = 128 := by omega
      refine lv_iload_n hx hb dX8_lays_2 rfl (lv_at hl 0 rfl) ?_
      refine lv_sipush (v := 128) hx hb dX8_lays_3 (by decide) ?_
      refine lv_icmp_ge (tgt := 21) hx hb dX8_lays_6 (by decide) (fun _ => ?_) (fun h9 => absurd (nI_le (a := 128) (b := kk) (by omega) (by omega)) h9)
      exact g_vret C hr hlk hW hS dX8_lays_21 (by rw [hz, hkk])
    | succ q ih =>
      intro kk zz H locs ls hq hz hW hS hl
      refine lv_iload_n hx hb dX8_lays_2 rfl (lv_at hl 0 rfl) ?_
      refine lv_sipush (v := 128) hx hb dX8_lays_3 (by decide) ?_
      refine lv_icmp_ge (tgt := 21) hx hb dX8_lays_6 (by decide) (fun h9 => absurd h9 (nI_ge (a := kk) (b := 128) (by omega) (by omega))) (fun _ => ?_)
      refine lv_aload_n hx hb dX8_lays_9 rfl (lv_at hl 1 rfl) ?_
      refine lv_iload_n hx hb dX8_lays_10 rfl (lv_at hl 0 rfl) ?_
      refine lv_aload_n hx hb dX8_lays_11 rfl (lv_at hl 2 rfl) ?_
      refine lv_iload_n hx hb dX8_lays_12 rfl (lv_at hl 0 rfl) ?_
      refine gm_vld C hW kk (nI_clamp (by omega)) (vp_in_nI (show kk < 128 by omega) (by decide)) dX8_lays_13 ?_
      refine g_top (y := X.1 16 (kk)) (congrFun (rd_in (by decide) rfl) _) ?_
      refine gm_savedst C hW hS kk (nI_clamp (by omega)) (vp_in_nI (show kk < 128 by omega) (by decide)) dX8_lays_14 (fun H_3 locs_4 hW_5 hS_6 => ?_)
      obtain ⟨w_7, ew_7⟩ : ∃ Z9, Z9 = upd zz (kk) (X.1 16 (kk)) := ⟨_, rfl⟩
      have hW_8 : Wd G (setRow X 18 w_7) H_3 := Wd.cast (by rw [ew_7]; exact st_out) hW_5
      refine lv_iinc (v := nI (kk + 1)) (lv' := [(2, .int (nI (kk + 1))), (0, .ref (ad G 726)), (1, .ref (ad G 724))]) hx hb dX8_lays_15 hl (k := 0) rfl (nI_1 kk) (by decide) rfl (fun ls_9 hl_10 => ?_)
      refine lv_goto (tgt := 2) hx hb dX8_lays_18 (by decide) ?_
      exact ih (kk + 1) w_7 H_3 locs_4 ls_9 (by omega) (by subst ew_7; rw [hz]; exact cpT_s) hW_8 hS_6 (lv_sub hl_10 [0, 1, 2] rfl)
  exact loop 128 0 (X.1 18) s.heap [] ls_1 rfl cpT_0.symm hW hS (lv_sub hl_2 [0, 1, 2] rfl)

set_option maxHeartbeats 4000000 in
set_option maxRecDepth 100000 in
theorem cX8_lays_v_saved_ok (l : Launch) (G : GT) (X : St) : MetV l G yX8_lays (wsG yX8_lays cX8_lays 3 none) (rmz 0 0) [.ref (ad G 724), .ref (ad G 726)] X (fun Y => Y = setRow X 16 (cpT 128 (X.1 16) (X.1 18))) := by
  refine g_met (cc := cX8_lays) (maxL := 3) (ret := none) (by decide) rfl (Nat.le_of_ble_eq_true rfl) ?_
  intro p e s m below meth c ls C hr hlk hnm hW hl
  have hx := C.1.1
  have hb := C.1.2.1
  have hS : va_S (Ab G) s.heap s.heap [] := va_S.rf
  have hl : lv_has ls 3 [(0, .ref (ad G 724)), (1, .ref (ad G 726))] := hl
  have hW : Wd G (setRow X 16 (X.1 16)) s.heap := Wd.cast (sr_same (X := X) (r := 16) rfl).symm hW
  refine lv_iconst (v := 0) hx hb dX8_lays_0 (by decide) ?_
  refine lv_istore_n (lv' := [(2, .int 0), (0, .ref (ad G 724)), (1, .ref (ad G 726))]) hx hb dX8_lays_1 rfl hl (by decide) rfl (fun ls_1 hl_2 => ?_)
  have loop : ∀ (q : Nat) (kk : Nat) (zz : Nat → Int32) (H : Heap) (locs : List Loc) (ls : Array Slot), kk + q = 128 → zz = cpT kk (X.1 16) (X.1 18) → Wd G (setRow X 16 zz) H → va_S (Ab G) s.heap H locs → lv_has ls 3 [(2, .int (nI kk)), (0, .ref (ad G 724)), (1, .ref (ad G 726))] → W p l e (rmz 0 0) s m ([.ref (ad G 724), .ref (ad G 726)] : List Value).toArray below meth c H locs 0 0 (MQ below (Kv G (fun Y => Y = setRow X 16 (cpT 128 (X.1 16) (X.1 18)))) ([.ref (ad G 724), .ref (ad G 726)] : List Value).toArray s 0 0 (Ab G)) (F0 m 2 ls []) := by
    intro q
    induction q with
    | zero =>
      intro kk zz H locs ls hq hz hW hS hl
      have hkk : kk = 128 := by omega
      refine lv_iload_n hx hb dX8_lays_2 rfl (lv_at hl 0 rfl) ?_
      refine lv_sipush (v := 128) hx hb dX8_lays_3 (by decide) ?_
      refine lv_icmp_ge (tgt := 21) hx hb dX8_lays_6 (by decide) (fun _ => ?_) (fun h9 => absurd (nI_le (a := 128) (b := kk) (by omega) (by omega)) h9)
      exact g_vret C hr hlk hW hS dX8_lays_21 (by rw [hz, hkk])
    | succ q ih =>
      intro kk zz H locs ls hq hz hW hS hl
      refine lv_iload_n hx hb dX8_lays_2 rfl (lv_at hl 0 rfl) ?_
      refine lv_sipush (v := 128) hx hb dX8_lays_3 (by decide) ?_
      refine lv_icmp_ge (tgt := 21) hx hb dX8_lays_6 (by decide) (fun h9 => absurd h9 (nI_ge (a := kk) (b := 128) (by omega) (by omega))) (fun _ => ?_)
      refine lv_aload_n hx hb dX8_lays_9 rfl (lv_at hl 1 rfl) ?_
      refine lv_iload_n hx hb dX8_lays_10 rfl (lv_at hl 0 rfl) ?_
      refine lv_aload_n hx hb dX8_lays_11 rfl (lv_at hl 2 rfl) ?_
      refine lv_iload_n hx hb dX8_lays_12 rfl (lv_at hl 0 rfl) ?_
      refine gm_savedld C hW kk (nI_clamp (by omega)) (vp_in_nI (show kk < 128 by omega) (by decide)) dX8_lays_13 ?_
      refine g_top (y := X.1 18 (kk)) (congrFun (rd_in (by decide) rfl) _) ?_
      refine gm_vst C hW hS kk (nI_clamp (by omega)) (vp_in_nI (show kk < 128 by omega) (by decide)) dX8_lays_14 (fun H_3 locs_4 hW_5 hS_6 => ?_)
      obtain ⟨w_7, ew_7⟩ : ∃ Z9, Z9 = upd zz (kk) (X.1 18 (kk)) := ⟨_, rfl⟩
      have hW_8 : Wd G (setRow X 16 w_7) H_3 := Wd.cast (by rw [ew_7]; exact st_out) hW_5
      refine lv_iinc (v := nI (kk + 1)) (lv' := [(2, .int (nI (kk + 1))), (0, .ref (ad G 724)), (1, .ref (ad G 726))]) hx hb dX8_lays_15 hl (k := 0) rfl (nI_1 kk) (by decide) rfl (fun ls_9 hl_10 => ?_)
      refine lv_goto (tgt := 2) hx hb dX8_lays_18 (by decide) ?_
      exact ih (kk + 1) w_7 H_3 locs_4 ls_9 (by omega) (by subst ew_7; rw [hz]; exact cpT_s) hW_8 hS_6 (lv_sub hl_10 [0, 1, 2] rfl)
  exact loop 128 0 (X.1 16) s.heap [] ls_1 rfl cpT_0.symm hW hS (lv_sub hl_2 [0, 1, 2] rfl)

def oM_begins (w15 : Nat → Int32) (w16 : Nat → Int32) (w17 : Nat → Int32) : (Nat → Int32) × (Nat → Int32) := ((upd (w15) (0) 0), (cpT 128 (w17) (w16)))
set_option maxHeartbeats 4000000 in
set_option maxRecDepth 100000 in
theorem cX8_begins_ok (l : Launch) (G : GT) (X : St) : MetV l G yX8_begins (wsG yX8_begins cX8_begins 1 none) (rmz 1 22) [.ref (ad G 723)] X (fun Y => Y = setRow (setRow (X) 15 ((oM_begins (X.1 15) (X.1 16) (X.1 17)).1)) 17 ((oM_begins (X.1 15) (X.1 16) (X.1 17)).2)) := by
  refine g_met (cc := cX8_begins) (maxL := 1) (ret := none) (by decide) rfl (Nat.le_of_ble_eq_true rfl) ?_
  intro p e s m below meth c ls C hr hlk hnm hW hl
  have hx := C.1.1
  have hb := C.1.2.1
  have hS : va_S (Ab G) s.heap s.heap [] := va_S.rf
  have hl : lv_has ls 1 [(0, .ref (ad G 723))] := hl
  have hW : Wd G (setRow (setRow (X) 15 (X.1 15)) 17 (X.1 17)) s.heap := Wd.cast (((sr_same (X := setRow (X) 15 (X.1 15)) (r := 17) rfl).trans (sr_same (X := X) (r := 15) rfl))).symm hW
  refine lv_aload_n hx hb dX8_begins_0 rfl (lv_at hl 0 rfl) ?_
  refine lv_iconst (v := 0) hx hb dX8_begins_1 (by decide) ?_
  refine gM_thrownP C hW hS (hwc hwX8) (mc qw_1476) dX8_begins_2 (fun H_1 locs_2 hW_3 hS_4 => ?_)
  obtain ⟨w_5, ew_5⟩ : ∃ Z9, Z9 = upd (X.1 15) (0) 0 := ⟨_, rfl⟩
  have kn_6 : w_5 (0) = 0 := by rw [ew_5]; exact pk_us
  have hW_7 : Wd G (setRow (setRow X 15 w_5) 17 (X.1 17)) H_1 := Wd.cast (by rw [ew_5]; exact (st_in (by decide) st_out)) hW_3
  refine lv_aload_n hx hb dX8_begins_5 rfl (lv_at hl 0 rfl) ?_
  refine gM_before C hW_7 (hwc hwX8) (mc qw_1482) dX8_begins_6 ?_
  refine lv_aload_n hx hb dX8_begins_9 rfl (lv_at hl 0 rfl) ?_
  refine gM_v C hW_7 (hwc hwX8) (mc qw_1481) dX8_begins_10 ?_
  refine g_callv (va_runS (As := [.ref (ad G 725), .ref (ad G 724)]) (rest := []) C.1 (cX8_lays_before_v_ok l G (setRow (setRow X 15 w_5) 17 (X.1 17))) (va_cwS 2 C.1.2.2.2.2 (gS qw_1555 qw_1556 qw_81 qw_1557) rfl rfl rfl (by decide +kernel) ⟨Nat.le_of_ble_eq_true rfl, Nat.le_of_ble_eq_true rfl⟩) (g_pre C hW_7 hS_4 [.ref (ad G 725), .ref (ad G 724)]) rfl rfl hl.1 rfl (lv_room (Nat.le_of_ble_eq_true rfl)) dX8_begins_13 ⟨Nat.zero_le _, Nat.zero_le _⟩) hS_4 (fun Y_9 H_10 locs_11 hW_12 hS_13 h_8 => ?_)
  rw [show (setRow (setRow X 15 w_5) 17 (X.1 17)).1 17 = X.1 17 from rd_out] at h_8
  rw [show (setRow (setRow X 15 w_5) 17 (X.1 17)).1 16 = X.1 16 from (rd_in (by decide) (rd_in (by decide) rfl))] at h_8
  obtain ⟨w_14, ew_14⟩ : ∃ Z9, Z9 = cpT 128 (X.1 17) (X.1 16) := ⟨_, rfl⟩
  have qqw_14 : Y_9 = setRow (setRow (setRow X 15 w_5) 17 (X.1 17)) 17 w_14 := by rw [h_8, ew_14]
  have hW_15 : Wd G (setRow (setRow X 15 w_5) 17 w_14) H_10 := Wd.cast ((qqw_14).trans (congrArg (fun Z9 => Z9) sr_out)) hW_12
  exact g_vret C hr hlk hW_15 hS_13 dX8_begins_16 (by subst ew_14; subst ew_5; exact (by first | rfl | (simp only [oM_begins, if_true, if_false]; first | done | rfl)))

def oM_ends (w15 : Nat → Int32) (w16 : Nat → Int32) (w17 : Nat → Int32) (w19 : Nat → Int32) (r : Int32) : Int32 × ((Nat → Int32) × ((Nat → Int32) × (Nat → Int32))) := 
  if w15 0 = 0 then
    (if w15 1 = 8 then (r, upd (upd w15 1 (nI ((w15 1).toNatClampNeg - 1))) 1 (nI ((w15 1).toNatClampNeg - 1 + 1)), w16, cpP (shP w19 896) ((w15 1).toNatClampNeg - 1) w17 128)
     else (r, upd w15 1 (nI ((w15 1).toNatClampNeg + 1)), w16, cpP w19 (w15 1).toNatClampNeg w17 128))
  else (0, w15, cpT 128 w16 w17, w19)
set_option maxHeartbeats 4000000 in
set_option maxRecDepth 100000 in
theorem cX8_ends_ok (l : Launch) (G : GT) (X : St) (r : Int32) (cg : Nat) (hc : cg ≤ 8) (ec : X.1 15 1 = nI cg) : MetI l G yX8_ends (wsG yX8_ends cX8_ends 3 (some .int)) (rmz 1 22) [.ref (ad G 723), .int r] X (fun res Y => res = (oM_ends (X.1 15) (X.1 16) (X.1 17) (X.1 19) r).1 ∧ Y = setRow (setRow (setRow (X) 15 ((oM_ends (X.1 15) (X.1 16) (X.1 17) (X.1 19) r).2.1)) 16 ((oM_ends (X.1 15) (X.1 16) (X.1 17) (X.1 19) r).2.2.1)) 19 ((oM_ends (X.1 15) (X.1 16) (X.1 17) (X.1 19) r).2.2.2)) := by
  refine g_met (cc := cX8_ends) (maxL := 3) (ret := (some .int)) (by decide) rfl (Nat.le_of_ble_eq_true rfl) ?_
  intro p e s m below meth c ls C hr hlk hnm hW hl
  have hx := C.1.1
  have hb := C.1.2.1
  have hS : va_S (Ab G) s.heap s.heap [] := va_S.rf
  have hl : lv_has ls 3 [(0, .ref (ad G 723)), (1, .int r)] := hl
  have hW : Wd G (setRow (setRow (setRow (X) 15 (X.1 15)) 16 (X.1 16)) 19 (X.1 19)) s.heap := Wd.cast ((((sr_same (X := setRow (setRow (X) 15 (X.1 15)) 16 (X.1 16)) (r := 19) rfl).trans (sr_same (X := setRow (X) 15 (X.1 15)) (r := 16) rfl)).trans (sr_same (X := X) (r := 15) rfl))).symm hW
  refine lv_aload_n hx hb dX8_ends_0 rfl (lv_at hl 0 rfl) ?_
  refine gM_thrown C hW (hwc hwX8) (mc qw_1476) dX8_ends_1 ?_
  refine g_top (y := X.1 15 (0)) (congrFun (rd_in (by decide) (rd_in (by decide) rd_out)) _) ?_
  refine lv_if_eq (tgt := 20) hx hb dX8_ends_4 (by decide) (fun b_1 => ?_) (fun b_1 => ?_)
  · refine lv_aload_n hx hb dX8_ends_20 rfl (lv_at hl 0 rfl) ?_
    refine gM_changes C hW (hwc hwX8) (mc qw_1477) dX8_ends_21 ?_
    refine g_top (y := X.1 15 (1)) (congrFun (rd_in (by decide) (rd_in (by decide) rd_out)) _) ?_
    refine g_top (y := nI cg) ec ?_
    refine lv_bipush (v := 8) hx hb dX8_ends_24 (by decide) ?_
    refine lv_icmp_ne (tgt := 70) hx hb dX8_ends_26 (by decide) (fun b_2 => ?_) (fun b_2 => ?_)
    · have fb_2 : ¬ cg = 8 := fun q9 => b_2 ((nI_eq (a := cg) (b := 8) (by omega) (by omega)).mpr q9)
      refine lv_iconst (v := 0) hx hb dX8_ends_70 (by decide) ?_
      refine lv_istore_n (lv' := [(2, .int 0), (0, .ref (ad G 723)), (1, .int r)]) hx hb dX8_ends_71 rfl hl (by decide) rfl (fun ls_3 hl_4 => ?_)
      have loop2 : ∀ (q2 : Nat) (k2 : Nat) (z2 : Nat → Int32) (H : Heap) (locs : List Loc) (ls : Array Slot), k2 + q2 = 128 → z2 = cpP (X.1 19) cg (X.1 17) k2 → Wd G (setRow (setRow (setRow X 15 (X.1 15)) 16 (X.1 16)) 19 z2) H → va_S (Ab G) s.heap H locs → lv_has ls 3 [(2, .int (nI k2)), (0, .ref (ad G 723)), (1, .int r)] → W p l e (rmz 1 22) s m ([.ref (ad G 723), .int r] : List Value).toArray below meth c H locs 0 0 (MQ below (Ki G (fun res Y => res = (oM_ends (X.1 15) (X.1 16) (X.1 17) (X.1 19) r).1 ∧ Y = setRow (setRow (setRow (X) 15 ((oM_ends (X.1 15) (X.1 16) (X.1 17) (X.1 19) r).2.1)) 16 ((oM_ends (X.1 15) (X.1 16) (X.1 17) (X.1 19) r).2.2.1)) 19 ((oM_ends (X.1 15) (X.1 16) (X.1 17) (X.1 19) r).2.2.2))) ([.ref (ad G 723), .int r] : List Value).toArray s 0 0 (Ab G)) (F0 m 72 ls []) := by
        intro q2
        induction q2 with
        | zero =>
          intro k2 z2 H locs ls hq2 hz2 hW hS hl
          have hk2 : k2 = 128 := by omega
          refine lv_iload_n hx hb dX8_ends_72 rfl (lv_at hl 0 rfl) ?_
          refine lv_sipush (v := 128) hx hb dX8_ends_73 (by decide) ?_
          refine lv_icmp_ge (tgt := 106) hx hb dX8_ends_76 (by decide) (fun _ => ?_) (fun h9 => absurd (nI_le (a := 128) (b := k2) (by omega) (by omega)) h9)
          refine lv_aload_n hx hb dX8_ends_106 rfl (lv_at hl 1 rfl) ?_
          refine lv_dup hx hb dX8_ends_107 rfl ?_
          refine gM_changes C hW (hwc hwX8) (mc qw_1477) dX8_ends_108 ?_
          refine g_top (y := X.1 15 (1)) (congrFun (rd_in (by decide) (rd_in (by decide) rd_out)) _) ?_
          refine g_top (y := nI cg) ec ?_
          refine lv_iconst (v := 1) hx hb dX8_ends_111 (by decide) ?_
          refine lv_iadd hx hb dX8_ends_112 ?_
          refine g_top (y := nI (cg + 1)) (nI_add cg 1) ?_
          refine gM_changesP C hW hS (hwc hwX8) (mc qw_1477) dX8_ends_113 (fun H_5 locs_6 hW_7 hS_8 => ?_)
          obtain ⟨w_9, ew_9⟩ : ∃ Z9, Z9 = upd (X.1 15) (1) (nI (cg + 1)) := ⟨_, rfl⟩
          have kn_10 : w_9 (1) = nI (cg + 1) := by rw [ew_9]; exact pk_us
          have hW_11 : Wd G (setRow (setRow (setRow X 15 w_9) 16 (X.1 16)) 19 z2) H_5 := Wd.cast (by rw [ew_9]; exact (st_in (by decide) (st_in (by decide) st_out))) hW_7
          refine lv_iload_n hx hb dX8_ends_116 rfl (lv_at hl 2 rfl) ?_
          exact g_iret C hr hlk hW_11 hS_8 dX8_ends_117 (by subst hk2; subst hz2; subst ew_9; exact ⟨(by simp only [oM_ends, ec, clf (show cg < 2 ^ 31 by omega), eq_true b_1, b_2, if_true, if_false, nI_1]; first | done | rfl), (by simp only [oM_ends, ec, clf (show cg < 2 ^ 31 by omega), eq_true b_1, b_2, if_true, if_false, nI_1]; first | done | rfl)⟩)
        | succ q2 ih2 =>
          intro k2 z2 H locs ls hq2 hz2 hW hS hl
          refine lv_iload_n hx hb dX8_ends_72 rfl (lv_at hl 0 rfl) ?_
          refine lv_sipush (v := 128) hx hb dX8_ends_73 (by decide) ?_
          refine lv_icmp_ge (tgt := 106) hx hb dX8_ends_76 (by decide) (fun h9 => absurd h9 (nI_ge (a := k2) (b := 128) (by omega) (by omega))) (fun _ => ?_)
          refine lv_aload_n hx hb dX8_ends_79 rfl (lv_at hl 1 rfl) ?_
          refine gM_past C hW (hwc hwX8) (mc qw_1484) dX8_ends_80 ?_
          refine lv_aload_n hx hb dX8_ends_83 rfl (lv_at hl 1 rfl) ?_
          refine gM_changes C hW (hwc hwX8) (mc qw_1477) dX8_ends_84 ?_
          refine g_top (y := X.1 15 (1)) (congrFun (rd_in (by decide) (rd_in (by decide) rd_out)) _) ?_
          refine g_top (y := nI cg) ec ?_
          refine lv_sipush (v := 128) hx hb dX8_ends_87 (by decide) ?_
          refine lv_imul hx hb dX8_ends_90 ?_
          refine g_top (y := nI (cg * 128)) (pk_mul cg 128) ?_
          refine lv_iload_n hx hb dX8_ends_91 rfl (lv_at hl 0 rfl) ?_
          refine lv_iadd hx hb dX8_ends_92 ?_
          refine g_top (y := nI ((cg * 128) + k2)) (nI_add (cg * 128) k2) ?_
          refine lv_aload_n hx hb dX8_ends_93 rfl (lv_at hl 1 rfl) ?_
          refine gM_before C hW (hwc hwX8) (mc qw_1482) dX8_ends_94 ?_
          refine lv_iload_n hx hb dX8_ends_97 rfl (lv_at hl 0 rfl) ?_
          refine gm_beforeld C hW k2 (nI_clamp (by omega)) (vp_in_nI (show k2 < 128 by omega) (by decide)) dX8_ends_98 ?_
          refine g_top (y := X.1 17 (k2)) (congrFun (rd_in (by decide) (rd_in (by decide) (rd_in (by decide) rfl))) _) ?_
          refine gm_pastst C hW hS ((cg * 128) + k2) (nI_clamp (by omega)) (vp_in_nI (show (cg * 128) + k2 < 1024 by omega) (by decide)) dX8_ends_99 (fun H_12 locs_13 hW_14 hS_15 => ?_)
          obtain ⟨w_16, ew_16⟩ : ∃ Z9, Z9 = upd z2 ((cg * 128) + k2) (X.1 17 (k2)) := ⟨_, rfl⟩
          have hW_17 : Wd G (setRow (setRow (setRow X 15 (X.1 15)) 16 (X.1 16)) 19 w_16) H_12 := Wd.cast (by rw [ew_16]; exact st_out) hW_14
          refine lv_iinc (v := nI (k2 + 1)) (lv' := [(2, .int (nI (k2 + 1))), (0, .ref (ad G 723)), (1, .int r)]) hx hb dX8_ends_100 hl (k := 0) rfl (nI_1 k2) (by decide) rfl (fun ls_18 hl_19 => ?_)
          refine lv_goto (tgt := 72) hx hb dX8_ends_103 (by decide) ?_
          exact ih2 (k2 + 1) w_16 H_12 locs_13 ls_18 (by omega) (by subst ew_16; rw [hz2]; exact cpP_s) hW_17 hS_15 (lv_sub hl_19 [0, 1, 2] rfl)
      exact loop2 128 0 (X.1 19) s.heap [] ls_3 rfl cpP_0.symm hW hS (lv_sub hl_4 [0, 1, 2] rfl)
    · have fb_2 : cg = 8 := (nI_eq (a := cg) (b := 8) (by omega) (by omega)).mp b_2
      refine lv_iconst (v := 0) hx hb dX8_ends_29 (by decide) ?_
      refine lv_istore_n (lv' := [(2, .int 0), (0, .ref (ad G 723)), (1, .int r)]) hx hb dX8_ends_30 rfl hl (by decide) rfl (fun ls_20 hl_21 => ?_)
      have loop : ∀ (q : Nat) (kk : Nat) (zz : Nat → Int32) (H : Heap) (locs : List Loc) (ls : Array Slot), kk + q = 896 → zz = shP (X.1 19) kk → Wd G (setRow (setRow (setRow X 15 (X.1 15)) 16 (X.1 16)) 19 zz) H → va_S (Ab G) s.heap H locs → lv_has ls 3 [(2, .int (nI kk)), (0, .ref (ad G 723)), (1, .int r)] → W p l e (rmz 1 22) s m ([.ref (ad G 723), .int r] : List Value).toArray below meth c H locs 0 0 (MQ below (Ki G (fun res Y => res = (oM_ends (X.1 15) (X.1 16) (X.1 17) (X.1 19) r).1 ∧ Y = setRow (setRow (setRow (X) 15 ((oM_ends (X.1 15) (X.1 16) (X.1 17) (X.1 19) r).2.1)) 16 ((oM_ends (X.1 15) (X.1 16) (X.1 17) (X.1 19) r).2.2.1)) 19 ((oM_ends (X.1 15) (X.1 16) (X.1 17) (X.1 19) r).2.2.2))) ([.ref (ad G 723), .int r] : List Value).toArray s 0 0 (Ab G)) (F0 m 31 ls []) := by
        intro q
        induction q with
        | zero =>
          intro kk zz H locs ls hq hz hW hS hl
          have hkk : kk = 896 := by omega
          refine lv_iload_n hx hb dX8_ends_31 rfl (lv_at hl 0 rfl) ?_
          refine lv_sipush (v := 896) hx hb dX8_ends_32 (by decide) ?_
          refine lv_icmp_ge (tgt := 60) hx hb dX8_ends_35 (by decide) (fun _ => ?_) (fun h9 => absurd (nI_le (a := 896) (b := kk) (by omega) (by omega)) h9)
          refine lv_aload_n hx hb dX8_ends_60 rfl (lv_at hl 1 rfl) ?_
          refine lv_dup hx hb dX8_ends_61 rfl ?_
          refine gM_changes C hW (hwc hwX8) (mc qw_1477) dX8_ends_62 ?_
          refine g_top (y := X.1 15 (1)) (congrFun (rd_in (by decide) (rd_in (by decide) rd_out)) _) ?_
          refine g_top (y := nI cg) ec ?_
          refine lv_iconst (v := 1) hx hb dX8_ends_65 (by decide) ?_
          refine lv_isub hx hb dX8_ends_66 ?_
          refine g_top (y := nI (cg - 1)) (pk_sub (a := cg) (b := 1) (by omega)) ?_
          refine gM_changesP C hW hS (hwc hwX8) (mc qw_1477) dX8_ends_67 (fun H_22 locs_23 hW_24 hS_25 => ?_)
          obtain ⟨w_26, ew_26⟩ : ∃ Z9, Z9 = upd (X.1 15) (1) (nI (cg - 1)) := ⟨_, rfl⟩
          have kn_27 : w_26 (1) = nI (cg - 1) := by rw [ew_26]; exact pk_us
          have hW_28 : Wd G (setRow (setRow (setRow X 15 w_26) 16 (X.1 16)) 19 zz) H_22 := Wd.cast (by rw [ew_26]; exact (st_in (by decide) (st_in (by decide) st_out))) hW_24
          refine lv_iconst (v := 0) hx hb dX8_ends_70 (by decide) ?_
          refine lv_istore_n (lv' := [(2, .int 0), (0, .ref (ad G 723)), (1, .int r)]) hx hb dX8_ends_71 rfl hl (by decide) rfl (fun ls_29 hl_30 => ?_)
          have loop2 : ∀ (q2 : Nat) (k2 : Nat) (z2 : Nat → Int32) (H : Heap) (locs : List Loc) (ls : Array Slot), k2 + q2 = 128 → z2 = cpP zz (cg - 1) (X.1 17) k2 → Wd G (setRow (setRow (setRow X 15 w_26) 16 (X.1 16)) 19 z2) H → va_S (Ab G) s.heap H locs → lv_has ls 3 [(2, .int (nI k2)), (0, .ref (ad G 723)), (1, .int r)] → W p l e (rmz 1 22) s m ([.ref (ad G 723), .int r] : List Value).toArray below meth c H locs 0 0 (MQ below (Ki G (fun res Y => res = (oM_ends (X.1 15) (X.1 16) (X.1 17) (X.1 19) r).1 ∧ Y = setRow (setRow (setRow (X) 15 ((oM_ends (X.1 15) (X.1 16) (X.1 17) (X.1 19) r).2.1)) 16 ((oM_ends (X.1 15) (X.1 16) (X.1 17) (X.1 19) r).2.2.1)) 19 ((oM_ends (X.1 15) (X.1 16) (X.1 17) (X.1 19) r).2.2.2))) ([.ref (ad G 723), .int r] : List Value).toArray s 0 0 (Ab G)) (F0 m 72 ls []) := by
            intro q2
            induction q2 with
            | zero =>
              intro k2 z2 H locs ls hq2 hz2 hW hS hl
              have hk2 : k2 = 128 := by omega
              refine lv_iload_n hx hb dX8_ends_72 rfl (lv_at hl 0 rfl) ?_
              refine lv_sipush (v := 128) hx hb dX8_ends_73 (by decide) ?_
              refine lv_icmp_ge (tgt := 106) hx hb dX8_ends_76 (by decide) (fun _ => ?_) (fun h9 => absurd (nI_le (a := 128) (b := k2) (by omega) (by omega)) h9)
              refine lv_aload_n hx hb dX8_ends_106 rfl (lv_at hl 1 rfl) ?_
              refine lv_dup hx hb dX8_ends_107 rfl ?_
              refine gM_changes C hW (hwc hwX8) (mc qw_1477) dX8_ends_108 ?_
              refine g_top (y := w_26 (1)) (congrFun (rd_in (by decide) (rd_in (by decide) rd_out)) _) ?_
              refine g_top (y := nI (cg - 1)) kn_27 ?_
              refine lv_iconst (v := 1) hx hb dX8_ends_111 (by decide) ?_
              refine lv_iadd hx hb dX8_ends_112 ?_
              refine g_top (y := nI (cg - 1 + 1)) (nI_add (cg - 1) 1) ?_
              refine gM_changesP C hW hS (hwc hwX8) (mc qw_1477) dX8_ends_113 (fun H_31 locs_32 hW_33 hS_34 => ?_)
              obtain ⟨w_35, ew_35⟩ : ∃ Z9, Z9 = upd w_26 (1) (nI (cg - 1 + 1)) := ⟨_, rfl⟩
              have kn_36 : w_35 (1) = nI (cg - 1 + 1) := by rw [ew_35]; exact pk_us
              have hW_37 : Wd G (setRow (setRow (setRow X 15 w_35) 16 (X.1 16)) 19 z2) H_31 := Wd.cast (by rw [ew_35]; exact (st_in (by decide) (st_in (by decide) st_out))) hW_33
              refine lv_iload_n hx hb dX8_ends_116 rfl (lv_at hl 2 rfl) ?_
              exact g_iret C hr hlk hW_37 hS_34 dX8_ends_117 (by subst hk2; subst hz2; subst ew_26; subst hkk; subst hz; subst ew_35; exact ⟨(by simp only [oM_ends, ec, clf (show cg < 2 ^ 31 by omega), eq_true b_1, eq_true b_2, if_true, if_false, nI_1]; first | done | rfl), (by simp only [oM_ends, ec, clf (show cg < 2 ^ 31 by omega), eq_true b_1, eq_true b_2, if_true, if_false, nI_1]; first | done | rfl)⟩)
            | succ q2 ih2 =>
              intro k2 z2 H locs ls hq2 hz2 hW hS hl
              refine lv_iload_n hx hb dX8_ends_72 rfl (lv_at hl 0 rfl) ?_
              refine lv_sipush (v := 128) hx hb dX8_ends_73 (by decide) ?_
              refine lv_icmp_ge (tgt := 106) hx hb dX8_ends_76 (by decide) (fun h9 => absurd h9 (nI_ge (a := k2) (b := 128) (by omega) (by omega))) (fun _ => ?_)
              refine lv_aload_n hx hb dX8_ends_79 rfl (lv_at hl 1 rfl) ?_
              refine gM_past C hW (hwc hwX8) (mc qw_1484) dX8_ends_80 ?_
              refine lv_aload_n hx hb dX8_ends_83 rfl (lv_at hl 1 rfl) ?_
              refine gM_changes C hW (hwc hwX8) (mc qw_1477) dX8_ends_84 ?_
              refine g_top (y := w_26 (1)) (congrFun (rd_in (by decide) (rd_in (by decide) rd_out)) _) ?_
              refine g_top (y := nI (cg - 1)) kn_27 ?_
              refine lv_sipush (v := 128) hx hb dX8_ends_87 (by decide) ?_
              refine lv_imul hx hb dX8_ends_90 ?_
              refine g_top (y := nI ((cg - 1) * 128)) (pk_mul (cg - 1) 128) ?_
              refine lv_iload_n hx hb dX8_ends_91 rfl (lv_at hl 0 rfl) ?_
              refine lv_iadd hx hb dX8_ends_92 ?_
              refine g_top (y := nI (((cg - 1) * 128) + k2)) (nI_add ((cg - 1) * 128) k2) ?_
              refine lv_aload_n hx hb dX8_ends_93 rfl (lv_at hl 1 rfl) ?_
              refine gM_before C hW (hwc hwX8) (mc qw_1482) dX8_ends_94 ?_
              refine lv_iload_n hx hb dX8_ends_97 rfl (lv_at hl 0 rfl) ?_
              refine gm_beforeld C hW k2 (nI_clamp (by omega)) (vp_in_nI (show k2 < 128 by omega) (by decide)) dX8_ends_98 ?_
              refine g_top (y := X.1 17 (k2)) (congrFun (rd_in (by decide) (rd_in (by decide) (rd_in (by decide) rfl))) _) ?_
              refine gm_pastst C hW hS (((cg - 1) * 128) + k2) (nI_clamp (by omega)) (vp_in_nI (show ((cg - 1) * 128) + k2 < 1024 by omega) (by decide)) dX8_ends_99 (fun H_38 locs_39 hW_40 hS_41 => ?_)
              obtain ⟨w_42, ew_42⟩ : ∃ Z9, Z9 = upd z2 (((cg - 1) * 128) + k2) (X.1 17 (k2)) := ⟨_, rfl⟩
              have hW_43 : Wd G (setRow (setRow (setRow X 15 w_26) 16 (X.1 16)) 19 w_42) H_38 := Wd.cast (by rw [ew_42]; exact st_out) hW_40
              refine lv_iinc (v := nI (k2 + 1)) (lv' := [(2, .int (nI (k2 + 1))), (0, .ref (ad G 723)), (1, .int r)]) hx hb dX8_ends_100 hl (k := 0) rfl (nI_1 k2) (by decide) rfl (fun ls_44 hl_45 => ?_)
              refine lv_goto (tgt := 72) hx hb dX8_ends_103 (by decide) ?_
              exact ih2 (k2 + 1) w_42 H_38 locs_39 ls_44 (by omega) (by subst ew_42; rw [hz2]; exact cpP_s) hW_43 hS_41 (lv_sub hl_45 [0, 1, 2] rfl)
          exact loop2 128 0 zz H_22 locs_23 ls_29 rfl cpP_0.symm hW_28 hS_25 (lv_sub hl_30 [0, 1, 2] rfl)
        | succ q ih =>
          intro kk zz H locs ls hq hz hW hS hl
          refine lv_iload_n hx hb dX8_ends_31 rfl (lv_at hl 0 rfl) ?_
          refine lv_sipush (v := 896) hx hb dX8_ends_32 (by decide) ?_
          refine lv_icmp_ge (tgt := 60) hx hb dX8_ends_35 (by decide) (fun h9 => absurd h9 (nI_ge (a := kk) (b := 896) (by omega) (by omega))) (fun _ => ?_)
          refine lv_aload_n hx hb dX8_ends_38 rfl (lv_at hl 1 rfl) ?_
          refine gM_past C hW (hwc hwX8) (mc qw_1484) dX8_ends_39 ?_
          refine lv_iload_n hx hb dX8_ends_42 rfl (lv_at hl 0 rfl) ?_
          refine lv_aload_n hx hb dX8_ends_43 rfl (lv_at hl 1 rfl) ?_
          refine gM_past C hW (hwc hwX8) (mc qw_1484) dX8_ends_44 ?_
          refine lv_iload_n hx hb dX8_ends_47 rfl (lv_at hl 0 rfl) ?_
          refine lv_sipush (v := 128) hx hb dX8_ends_48 (by decide) ?_
          refine lv_iadd hx hb dX8_ends_51 ?_
          refine g_top (y := nI (kk + 128)) (nI_add kk 128) ?_
          refine gm_pastld C hW (kk + 128) (nI_clamp (by omega)) (vp_in_nI (show kk + 128 < 1024 by omega) (by decide)) dX8_ends_52 ?_
          refine g_top (y := zz (kk + 128)) (congrFun rd_out _) ?_
          refine gm_pastst C hW hS kk (nI_clamp (by omega)) (vp_in_nI (show kk < 1024 by omega) (by decide)) dX8_ends_53 (fun H_46 locs_47 hW_48 hS_49 => ?_)
          obtain ⟨w_50, ew_50⟩ : ∃ Z9, Z9 = upd zz (kk) (zz (kk + 128)) := ⟨_, rfl⟩
          have hW_51 : Wd G (setRow (setRow (setRow X 15 (X.1 15)) 16 (X.1 16)) 19 w_50) H_46 := Wd.cast (by rw [ew_50]; exact st_out) hW_48
          refine lv_iinc (v := nI (kk + 1)) (lv' := [(2, .int (nI (kk + 1))), (0, .ref (ad G 723)), (1, .int r)]) hx hb dX8_ends_54 hl (k := 0) rfl (nI_1 kk) (by decide) rfl (fun ls_52 hl_53 => ?_)
          refine lv_goto (tgt := 31) hx hb dX8_ends_57 (by decide) ?_
          exact ih (kk + 1) w_50 H_46 locs_47 ls_52 (by omega) (by subst ew_50; rw [hz]; exact shP_s (by omega)) hW_51 hS_49 (lv_sub hl_53 [0, 1, 2] rfl)
      exact loop 896 0 (X.1 19) s.heap [] ls_20 rfl shP_0.symm hW hS (lv_sub hl_21 [0, 1, 2] rfl)
  · refine lv_aload_n hx hb dX8_ends_7 rfl (lv_at hl 0 rfl) ?_
    refine gM_v C hW (hwc hwX8) (mc qw_1481) dX8_ends_8 ?_
    refine lv_aload_n hx hb dX8_ends_11 rfl (lv_at hl 0 rfl) ?_
    refine gM_before C hW (hwc hwX8) (mc qw_1482) dX8_ends_12 ?_
    refine g_callv (va_runS (As := [.ref (ad G 724), .ref (ad G 725)]) (rest := []) C.1 (cX8_lays_v_before_ok l G (setRow (setRow (setRow X 15 (X.1 15)) 16 (X.1 16)) 19 (X.1 19))) (va_cwS 2 C.1.2.2.2.2 (gS qw_1555 qw_1556 qw_81 qw_1557) rfl rfl rfl (by decide +kernel) ⟨Nat.le_of_ble_eq_true rfl, Nat.le_of_ble_eq_true rfl⟩) (g_pre C hW hS [.ref (ad G 724), .ref (ad G 725)]) rfl rfl hl.1 rfl (lv_room (Nat.le_of_ble_eq_true rfl)) dX8_ends_15 ⟨Nat.zero_le _, Nat.zero_le _⟩) hS (fun Y_55 H_56 locs_57 hW_58 hS_59 h_54 => ?_)
    rw [show (setRow (setRow (setRow X 15 (X.1 15)) 16 (X.1 16)) 19 (X.1 19)).1 16 = X.1 16 from (rd_in (by decide) rd_out)] at h_54
    rw [show (setRow (setRow (setRow X 15 (X.1 15)) 16 (X.1 16)) 19 (X.1 19)).1 17 = X.1 17 from (rd_in (by decide) (rd_in (by decide) (rd_in (by decide) rfl)))] at h_54
    obtain ⟨w_60, ew_60⟩ : ∃ Z9, Z9 = cpT 128 (X.1 16) (X.1 17) := ⟨_, rfl⟩
    have qqw_60 : Y_55 = setRow (setRow (setRow (setRow X 15 (X.1 15)) 16 (X.1 16)) 19 (X.1 19)) 16 w_60 := by rw [h_54, ew_60]
    have hW_61 : Wd G (setRow (setRow (setRow X 15 (X.1 15)) 16 w_60) 19 (X.1 19)) H_56 := Wd.cast ((qqw_60).trans (congrArg (fun Z9 => Z9) (sr_in (by decide) sr_out))) hW_58
    refine lv_iconst (v := 0) hx hb dX8_ends_18 (by decide) ?_
    exact g_iret C hr hlk hW_61 hS_59 dX8_ends_19 (by subst ew_60; exact ⟨(by simp only [oM_ends, ec, clf (show cg < 2 ^ 31 by omega), b_1, if_true, if_false, nI_1]; first | done | rfl), (by simp only [oM_ends, ec, clf (show cg < 2 ^ 31 by omega), b_1, if_true, if_false, nI_1]; first | done | rfl)⟩)
