/-! The plant's larger methods, on its row. -/
def skimOffR (w : Nat → Int32) (x : Int32) : Int32 × (Nat → Int32) :=
  if sOut x 3 = 0 then
    if w (9 + 6 * x.toNatClampNeg + 3) = 0 then (-3, w) else
    if liqW w (9 + 6 * x.toNatClampNeg) = 0 then (-4, w) else
      let b := best3 w (9 + 6 * x.toNatClampNeg)
      let o := w (9 + 6 * x.toNatClampNeg + 3)
      let lo := imin (o / 4) (w (9 + 6 * x.toNatClampNeg + b))
      (o + lo, moveR (moveR w (9 + 6 * x.toNatClampNeg) 5 3 o) (9 + 6 * x.toNatClampNeg) 5 b lo)
  else (-1, w)
def drawR (w : Nat → Int32) (x y z : Int32) : Int32 × (Nat → Int32) :=
  if sOut x 3 = 0 then if sOut y 3 = 0 then
    if z < 1 then (-2, w) else if z ≤ 40 then
      if z ≤ sumW w (9 + 6 * x.toNatClampNeg) then
        if liqW w (9 + 6 * x.toNatClampNeg) = 0 then (-4, w) else
        if sumW w (27 + 5 * y.toNatClampNeg) + z ≤ 40 then
          let w1 := blendR w (27 + 5 * y.toNatClampNeg) 0 z (w (9 + 6 * x.toNatClampNeg + 4))
          let w2 := movePartR w1 (9 + 6 * x.toNatClampNeg) (27 + 5 * y.toNatClampNeg) z
          (w2 (27 + 5 * y.toNatClampNeg + 4), w2)
        else (-5, w)
      else (-3, w)
    else (-2, w)
  else (-1, w) else (-1, w)
def castR (w : Nat → Int32) (x y : Int32) : Int32 × (Nat → Int32) :=
  if sOut x 3 = 0 then if sOut y (w 42) = 0 then
    if sumW w (44 + 6 * y.toNatClampNeg) ≤ 0 then
      if w (48 + 6 * y.toNatClampNeg) ≤ sumW w (27 + 5 * x.toNatClampNeg) then
        if liqW w (27 + 5 * x.toNatClampNeg) = 0 then (-5, w) else
          let w1 := movePartR w (27 + 5 * x.toNatClampNeg) (44 + 6 * y.toNatClampNeg) (w (48 + 6 * y.toNatClampNeg))
          let w2 := chillR w1 (27 + 5 * x.toNatClampNeg)
          (sumW w2 (27 + 5 * x.toNatClampNeg), w2)
      else (-3, w)
    else (-4, w)
  else (-1, w) else (-1, w)
theorem kp_cpyR {w v : Nat → Int32} {i i2 j : Nat} (h : j < i ∨ i + 4 ≤ j) : cpyR w i v i2 j = w j := by
  unfold cpyR
  rw [pk_un (by omega), pk_un (by omega), pk_un (by omega), pk_un (by omega)]
def knockOutR (w : Nat → Int32) (x : Int32) : Int32 × (Nat → Int32) :=
  if sOut x (w 42) = 0 then
    if sumW w (44 + 6 * x.toNatClampNeg) = 0 then (-3, w) else
    if w 43 < 12 then
      (w 43, upd (clrR (cpyR w (80 + 4 * (w 43).toNatClampNeg) w (44 + 6 * x.toNatClampNeg)) (44 + 6 * x.toNatClampNeg)) 43 (w 43 + 1))
    else (-4, w)
  else (-1, w)
def cpvR (w : Nat → Int32) (i : Nat) (v : Nat → Int32) (i2 : Nat) : Nat → Int32 := upd (cpyR w i v i2) (i + 4) (v (i2 + 4))
def cpPlantR (w v : Nat → Int32) : Nat → Int32 := upd (cpyR (cpyR (upd (cpyR (cpyR (cpyR (cpyR (cpyR (cpyR (cpyR (cpyR (cpyR (cpyR (cpyR (cpyR (upd (upd (cpyR (upd (cpyR (upd (cpyR (upd (cpyR (upd (cpyR (upd (cpyR (cpvR (cpvR (cpvR (upd (cpvR (upd (cpvR (upd (cpvR (w) (9 + 6 * 0) v (9 + 6 * 0)) (14 + 6 * 0) (v (14 + 6 * 0))) (9 + 6 * 1) v (9 + 6 * 1)) (14 + 6 * 1) (v (14 + 6 * 1))) (9 + 6 * 2) v (9 + 6 * 2)) (14 + 6 * 2) (v (14 + 6 * 2))) (27 + 5 * 0) v (27 + 5 * 0)) (27 + 5 * 1) v (27 + 5 * 1)) (27 + 5 * 2) v (27 + 5 * 2)) (44 + 6 * 0) v (44 + 6 * 0)) (48 + 6 * 0) (v (48 + 6 * 0))) (44 + 6 * 1) v (44 + 6 * 1)) (48 + 6 * 1) (v (48 + 6 * 1))) (44 + 6 * 2) v (44 + 6 * 2)) (48 + 6 * 2) (v (48 + 6 * 2))) (44 + 6 * 3) v (44 + 6 * 3)) (48 + 6 * 3) (v (48 + 6 * 3))) (44 + 6 * 4) v (44 + 6 * 4)) (48 + 6 * 4) (v (48 + 6 * 4))) (44 + 6 * 5) v (44 + 6 * 5)) (48 + 6 * 5) (v (48 + 6 * 5))) 42 (v 42)) (80 + 4 * 0) v (80 + 4 * 0)) (80 + 4 * 1) v (80 + 4 * 1)) (80 + 4 * 2) v (80 + 4 * 2)) (80 + 4 * 3) v (80 + 4 * 3)) (80 + 4 * 4) v (80 + 4 * 4)) (80 + 4 * 5) v (80 + 4 * 5)) (80 + 4 * 6) v (80 + 4 * 6)) (80 + 4 * 7) v (80 + 4 * 7)) (80 + 4 * 8) v (80 + 4 * 8)) (80 + 4 * 9) v (80 + 4 * 9)) (80 + 4 * 10) v (80 + 4 * 10)) (80 + 4 * 11) v (80 + 4 * 11)) 43 (v 43)) 1 v 1) 5 v 5) 0 (v 0)
def furR (w : Nat → Int32) (f : Nat) : Nat → Int32 := upd w (9 + 6 * f + 4) (lim (w (9 + 6 * f + 4) + riseW w f))
def ladR (w : Nat → Int32) (f : Nat) : Nat → Int32 := if sumW w (27 + 5 * f) ≤ 0 then w else upd w (27 + 5 * f + 4) (lim (w (27 + 5 * f + 4) + (-10)))
def minuteR (w : Nat → Int32) : Nat → Int32 := ladR (ladR (ladR (furR (furR (furR (upd w 0 (w 0 + 1)) 0) 1) 2) 0) 1) 2
def itM : Nat → (Nat → Int32) → (Nat → Int32)
  | 0, z => z
  | q + 1, z => itM q (minuteR z)
def molW (w : Nat → Int32) : Int32 := (if liqW w (9 + 6 * 0) = 0 then 0 else 1) + (if liqW w (9 + 6 * 1) = 0 then 0 else 1) + (if liqW w (9 + 6 * 2) = 0 then 0 else 1)
def passR (w : Nat → Int32) (x : Int32) : Int32 × (Nat → Int32) :=
  if x < 1 then (-2, w) else if x ≤ 200 then (molW (itM x.toNatClampNeg w), itM x.toNatClampNeg w) else (-2, w)
theorem nI_1_200 {x : Int32} (h1 : ¬ x < 1) (h2 : x ≤ 200) : ∃ d, 1 ≤ d ∧ d ≤ 200 ∧ x = nI d := by
  have h0 : ¬ x < 0 := fun z => h1 (Int32.lt_trans z (by decide))
  obtain ⟨j, hj, rfl⟩ := nI_of h0
  refine ⟨j, ?_, (nI_leI hj (by decide : 200 < 2 ^ 31)).mp h2, rfl⟩
  rcases Nat.eq_zero_or_pos j with rfl | h
  · exact absurd (by decide) h1
  · exact h
set_option maxHeartbeats 4000000 in
set_option maxRecDepth 100000 in
theorem cX4_skimOff_ok (l : Launch) (G : GT) (X : St) (n : Nat) (hp : n < 11) (x : Int32) : MetI l G yX4_skimOff (wsG yX4_skimOff cX4_skimOff 7 (some .int)) (rmz 2 43) [.ref (ad G (65 * n + 0)), .int x] X (fun res Y => res = (skimOffR (X.1 n) x).1 ∧ Y = setRow X n (skimOffR (X.1 n) x).2) := by
  refine g_met (cc := cX4_skimOff) (maxL := 7) (ret := (some .int)) (by decide) rfl (Nat.le_of_ble_eq_true rfl) ?_
  intro p e s m below meth c ls C hr hlk hnm hW hl
  have hx := C.1.1
  have hb := C.1.2.1
  have hS : va_S (Ab G) s.heap s.heap [] := va_S.rf
  have hl : lv_has ls 7 [(0, .ref (ad G (65 * n + 0))), (1, .int x)] := hl
  refine lv_iload_n hx hb dX4_skimOff_0 rfl (lv_at hl 1 rfl) ?_
  refine lv_iconst (v := 3) hx hb dX4_skimOff_1 (by decide) ?_
  refine g_calli (va_runSN (As := [.int x, .int 3]) (rest := []) C.1 (cX7_outside_ok l G X x 3) (⟨va_cnB 2 C.1.2.2.2.2 (gN qw_827) rfl rfl rfl (C.2.2.1.1 _ nw_27) (C.1.2.2.2.2 _ (mc qw_71)) (by decide +kernel) ⟨Nat.le_of_ble_eq_true rfl, Nat.le_of_ble_eq_true rfl⟩, C.1.2.2.2.2 _ (mc qw_826), trivial⟩) (g_pre C hW hS [.int x, .int 3]) rfl rfl hl.1 rfl (lv_room (Nat.le_of_ble_eq_true rfl)) dX4_skimOff_2 ⟨Nat.zero_le _, Nat.zero_le _⟩) hS (fun r_2 Y_3 H_4 locs_5 hW_6 hS_7 h_1 => ?_)
  obtain ⟨h_1, hy_8⟩ := h_1
  replace hy_8 := hy_8.symm
  subst hy_8
  subst h_1
  refine lv_if_eq (tgt := 10) hx hb dX4_skimOff_5 (by decide) (fun b_9 => ?_) (fun b_9 => ?_)
  · obtain ⟨f_10, hf_10, rfl⟩ := sOut_in3 b_9
    refine lv_aload_n hx hb dX4_skimOff_10 rfl (lv_at hl 0 rfl) ?_
    refine gP_furnaces C hW_6 hp (hwc hwX4) (mc qw_155) dX4_skimOff_11 ?_
    refine lv_iload_n hx hb dX4_skimOff_14 rfl (lv_at hl 1 rfl) ?_
    refine g_fur C hW_6 hp f_10 (nI_clamp (by omega)) (vp_in_nI hf_10 (by decide)) dX4_skimOff_15 ?_
    refine lv_astore_n (lv' := [(2, .ref (ad G (65 * n + (11 + 3 * f_10)))), (0, .ref (ad G (65 * n + 0))), (1, .int (nI f_10))]) hx hb dX4_skimOff_16 rfl hl (by decide) rfl (fun ls_11 hl_12 => ?_)
    refine lv_aload_n hx hb dX4_skimOff_17 rfl (lv_at hl_12 0 rfl) ?_
    refine g_contentN C hW_6 (ves_fur (G := G) hp hf_10) (hwc hwX6) nw_20 dX4_skimOff_18 ?_
    refine lv_astore_n (lv' := [(3, .ref (ad G (65 * n + (12 + 3 * f_10)))), (2, .ref (ad G (65 * n + (11 + 3 * f_10)))), (0, .ref (ad G (65 * n + 0))), (1, .int (nI f_10))]) hx hb dX4_skimOff_21 rfl hl_12 (by decide) rfl (fun ls_13 hl_14 => ?_)
    refine lv_aload_n hx hb dX4_skimOff_22 rfl (lv_at hl_14 0 rfl) ?_
    refine g_massesN C hW_6 (ves_fur (G := G) hp hf_10).mix (hwc hwX3) nw_21 dX4_skimOff_23 ?_
    refine lv_iconst (v := 3) hx hb dX4_skimOff_26 (by decide) ?_
    refine g_mld C hW_6 (ves_fur (G := G) hp hf_10).mix 3 (by decide) (vlit (by decide)) dX4_skimOff_27 ?_
    refine lv_topi (fun v_15 ev_15 => ?_)
    refine lv_istore (lv' := [(4, .int v_15), (3, .ref (ad G (65 * n + (12 + 3 * f_10)))), (2, .ref (ad G (65 * n + (11 + 3 * f_10)))), (0, .ref (ad G (65 * n + 0))), (1, .int (nI f_10))]) hx hb dX4_skimOff_28 hl_14 (by decide) rfl (fun ls_16 hl_17 => ?_)
    refine lv_iload hx hb dX4_skimOff_30 (lv_at hl_17 0 rfl) ?_
    refine lv_if_ne (tgt := 38) hx hb dX4_skimOff_32 (by decide) (fun b_18 => ?_) (fun b_18 => ?_)
    · refine lv_aload_n hx hb dX4_skimOff_38 rfl (lv_at hl_17 2 rfl) ?_
      refine g_calli (va_runV (As := []) (rest := []) C.1 (cX6_liquid_ok l G X (65 * n + (11 + 3 * f_10)) (65 * n + (12 + 3 * f_10)) (65 * n + (13 + 3 * f_10)) n (9 + 6 * f_10) 10 (ves_fur (G := G) hp hf_10)) (cwV 0 C.1.2.2.2.2 (gV qw_355 qw_356 qw_357 qw_74 qw_358) rfl rfl rfl (by decide +kernel) ⟨Nat.le_of_ble_eq_true rfl, Nat.le_of_ble_eq_true rfl⟩) (g_rVes C hW_6 hS_7 (ves_fur (G := G) hp hf_10) []) rfl rfl hl_17.1 rfl (lv_room (Nat.le_of_ble_eq_true rfl)) dX4_skimOff_39 ⟨Nat.zero_le _, Nat.zero_le _⟩) hS_7 (fun r_20 Y_21 H_22 locs_23 hW_24 hS_25 h_19 => ?_)
      obtain ⟨h_19, hy_26⟩ := h_19
      replace hy_26 := hy_26.symm
      subst hy_26
      subst h_19
      refine lv_if_ne (tgt := 48) hx hb dX4_skimOff_42 (by decide) (fun b_27 => ?_) (fun b_27 => ?_)
      · refine lv_aload_n hx hb dX4_skimOff_48 rfl (lv_at hl_17 1 rfl) ?_
        refine lv_iconst (v := 3) hx hb dX4_skimOff_49 (by decide) ?_
        refine g_calli (va_runV (As := [.int 3]) (rest := []) C.1 (cX3_mostOf3_ok l G X (65 * n + (12 + 3 * f_10)) (65 * n + (13 + 3 * f_10)) n (9 + 6 * f_10) ((ves_fur (G := G) hp hf_10).mix)) (cwV 1 C.1.2.2.2.2 (gV qw_845 qw_846 qw_847 qw_73 qw_848) rfl rfl rfl (by decide +kernel) ⟨Nat.le_of_ble_eq_true rfl, Nat.le_of_ble_eq_true rfl⟩) (g_rMix C hW_24 hS_25 (ves_fur (G := G) hp hf_10).mix [.int 3]) rfl rfl hl_17.1 rfl (lv_room (Nat.le_of_ble_eq_true rfl)) dX4_skimOff_50 ⟨Nat.zero_le _, Nat.zero_le _⟩) hS_25 (fun r_29 Y_30 H_31 locs_32 hW_33 hS_34 h_28 => ?_)
        obtain ⟨h_28, hy_35⟩ := h_28
        replace hy_35 := hy_35.symm
        subst hy_35
        subst h_28
        refine lv_istore (lv' := [(5, .int (nI (best3 (X.1 n) (9 + 6 * f_10)))), (4, .int v_15), (3, .ref (ad G (65 * n + (12 + 3 * f_10)))), (2, .ref (ad G (65 * n + (11 + 3 * f_10)))), (0, .ref (ad G (65 * n + 0))), (1, .int (nI f_10))]) hx hb dX4_skimOff_53 hl_17 (by decide) rfl (fun ls_36 hl_37 => ?_)
        refine lv_iload hx hb dX4_skimOff_55 (lv_at hl_37 1 rfl) ?_
        refine lv_iconst (v := 4) hx hb dX4_skimOff_57 (by decide) ?_
        refine lv_idiv hx hb dX4_skimOff_58 (by decide) ?_
        refine lv_aload_n hx hb dX4_skimOff_59 rfl (lv_at hl_37 2 rfl) ?_
        refine g_massesN C hW_33 (ves_fur (G := G) hp hf_10).mix (hwc hwX3) nw_21 dX4_skimOff_60 ?_
        refine lv_iload hx hb dX4_skimOff_63 (lv_at hl_37 0 rfl) ?_
        refine g_mld C hW_33 (ves_fur (G := G) hp hf_10).mix (best3 (X.1 n) (9 + 6 * f_10)) (nI_clamp (Nat.lt_trans (lt_best3 _ _) (by decide))) (vp_in_nI (lt_best3 _ _) (by decide)) dX4_skimOff_65 ?_
        refine va_mmin C.1.1 C.1.2.1 (C.1.2.2.1.trans hl_37.1.symm) C.1.2.2.2.1 (C.1.2.2.2.2 _ (mc qw_849)) (C.1.2.2.2.2 _ (mc qwm_static)) (C.1.2.2.2.2 _ (mc qwm_init)) (C.1.2.2.2.2 _ (mc qwm_code)) (Nat.le_of_ble_eq_true rfl) (Nat.le_of_ble_eq_true rfl) (Nat.zero_le _) (Nat.zero_le _) dX4_skimOff_66 ?_
        refine lv_topi (fun v_38 ev_38 => ?_)
        refine lv_istore (lv' := [(6, .int v_38), (5, .int (nI (best3 (X.1 n) (9 + 6 * f_10)))), (4, .int v_15), (3, .ref (ad G (65 * n + (12 + 3 * f_10)))), (2, .ref (ad G (65 * n + (11 + 3 * f_10)))), (0, .ref (ad G (65 * n + 0))), (1, .int (nI f_10))]) hx hb dX4_skimOff_69 hl_37 (by decide) rfl (fun ls_39 hl_40 => ?_)
        refine lv_aload_n hx hb dX4_skimOff_71 rfl (lv_at hl_40 3 rfl) ?_
        refine lv_iconst (v := 3) hx hb dX4_skimOff_72 (by decide) ?_
        refine lv_iload hx hb dX4_skimOff_73 (lv_at hl_40 2 rfl) ?_
        refine lv_aload_n hx hb dX4_skimOff_75 rfl (lv_at hl_40 5 rfl) ?_
        refine gP_slagSoFar C hW_33 hp (hwc hwX4) (mc qw_173) dX4_skimOff_76 ?_
        refine g_callv (va_runVN (As := [.int 3, .int v_15, .ref (ad G (65 * n + 9))]) (rest := []) C.1 (cX3_move_ok l G X (65 * n + (12 + 3 * f_10)) (65 * n + (13 + 3 * f_10)) n (9 + 6 * f_10) ((ves_fur (G := G) hp hf_10).mix) 3 (by decide) v_15 (65 * n + 9) (65 * n + 10) 5 (mix_slag hp)) (⟨va_cnB 3 C.1.2.2.2.2 (gN qw_853) rfl rfl rfl (C.2.2.1.1 _ nw_29) (C.1.2.2.2.2 _ (mc qw_73)) (by decide +kernel) ⟨Nat.le_of_ble_eq_true rfl, Nat.le_of_ble_eq_true rfl⟩, C.1.2.2.2.2 _ (mc qw_852), C.1.2.2.2.2 _ (mc qw_6)⟩) (g_rMix C hW_33 hS_34 (ves_fur (G := G) hp hf_10).mix [.int 3, .int v_15, .ref (ad G (65 * n + 9))]) rfl rfl hl_40.1 rfl (lv_room (Nat.le_of_ble_eq_true rfl)) dX4_skimOff_79 ⟨Nat.zero_le _, Nat.zero_le _⟩) hS_34 (fun Y_42 H_43 locs_44 hW_45 hS_46 h_41 => ?_)
        obtain ⟨w_47, ew_47⟩ : ∃ Z9, Z9 = moveR (X.1 n) (9 + 6 * f_10) 5 3 v_15 := ⟨_, rfl⟩
        have hW_48 : Wd G (setRow X n w_47) H_43 := Wd.cast (by rw [h_41, ew_47]) hW_45
        refine lv_aload_n hx hb dX4_skimOff_82 rfl (lv_at hl_40 3 rfl) ?_
        refine lv_iload hx hb dX4_skimOff_83 (lv_at hl_40 1 rfl) ?_
        refine lv_iload hx hb dX4_skimOff_85 (lv_at hl_40 0 rfl) ?_
        refine lv_aload_n hx hb dX4_skimOff_87 rfl (lv_at hl_40 5 rfl) ?_
        refine gP_slagSoFar C hW_48 hp (hwc hwX4) (mc qw_173) dX4_skimOff_88 ?_
        refine g_callv (va_runVN (As := [.int (nI (best3 (X.1 n) (9 + 6 * f_10))), .int v_38, .ref (ad G (65 * n + 9))]) (rest := []) C.1 (cX3_move_ok l G (setRow X n w_47) (65 * n + (12 + 3 * f_10)) (65 * n + (13 + 3 * f_10)) n (9 + 6 * f_10) ((ves_fur (G := G) hp hf_10).mix) (best3 (X.1 n) (9 + 6 * f_10)) (lt_best3 _ _) v_38 (65 * n + 9) (65 * n + 10) 5 (mix_slag hp)) (⟨va_cnB 3 C.1.2.2.2.2 (gN qw_853) rfl rfl rfl (C.2.2.1.1 _ nw_29) (C.1.2.2.2.2 _ (mc qw_73)) (by decide +kernel) ⟨Nat.le_of_ble_eq_true rfl, Nat.le_of_ble_eq_true rfl⟩, C.1.2.2.2.2 _ (mc qw_852), C.1.2.2.2.2 _ (mc qw_6)⟩) (g_rMix C hW_48 hS_46 (ves_fur (G := G) hp hf_10).mix [.int (nI (best3 (X.1 n) (9 + 6 * f_10))), .int v_38, .ref (ad G (65 * n + 9))]) rfl rfl hl_40.1 rfl (lv_room (Nat.le_of_ble_eq_true rfl)) dX4_skimOff_91 ⟨Nat.zero_le _, Nat.zero_le _⟩) hS_46 (fun Y_50 H_51 locs_52 hW_53 hS_54 h_49 => ?_)
        obtain ⟨w_55, ew_55⟩ : ∃ Z9, Z9 = moveR w_47 (9 + 6 * f_10) 5 (best3 (X.1 n) (9 + 6 * f_10)) v_38 := ⟨_, rfl⟩
        have hW_56 : Wd G (setRow X n w_55) H_51 := Wd.cast (by rw [h_49, ew_55]; exact ((congrArg (fun Z9 => setRow (setRow X n w_47) n (moveR Z9 (9 + 6 * f_10) 5 (best3 (X.1 n) (9 + 6 * f_10)) v_38)) rd_out).trans sr_out)) hW_53
        refine lv_iload hx hb dX4_skimOff_94 (lv_at hl_40 2 rfl) ?_
        refine lv_iload hx hb dX4_skimOff_96 (lv_at hl_40 0 rfl) ?_
        refine lv_iadd hx hb dX4_skimOff_98 ?_
        exact g_iret C hr hlk hW_56 hS_54 dX4_skimOff_99 (by subst ev_38; subst ev_15; exact ⟨by simp only [skimOffR, imin, clf (show f_10 < 2 ^ 31 by omega), b_9, b_18, b_27, ← ew_47, ← ew_55, if_true, if_false, sr_self], by simp only [skimOffR, imin, clf (show f_10 < 2 ^ 31 by omega), b_9, b_18, b_27, ← ew_47, ← ew_55, if_true, if_false, sr_self]⟩)
      · refine lv_bipush (v := (-4)) hx hb dX4_skimOff_45 (by decide) ?_
        exact g_iret C hr hlk hW_24 hS_25 dX4_skimOff_47 (by subst ev_15; exact ⟨by simp only [skimOffR, imin, clf (show f_10 < 2 ^ 31 by omega), b_9, b_18, b_27, if_true, if_false, sr_self], by simp only [skimOffR, imin, clf (show f_10 < 2 ^ 31 by omega), b_9, b_18, b_27, if_true, if_false, sr_self]⟩)
    · refine lv_bipush (v := (-3)) hx hb dX4_skimOff_35 (by decide) ?_
      exact g_iret C hr hlk hW_6 hS_7 dX4_skimOff_37 (by subst ev_15; exact ⟨by simp only [skimOffR, imin, clf (show f_10 < 2 ^ 31 by omega), b_9, b_18, if_true, if_false, sr_self], by simp only [skimOffR, imin, clf (show f_10 < 2 ^ 31 by omega), b_9, b_18, if_true, if_false, sr_self]⟩)
  · refine lv_iconst (v := (-1)) hx hb dX4_skimOff_8 (by decide) ?_
    exact g_iret C hr hlk hW_6 hS_7 dX4_skimOff_9 (by exact ⟨by simp only [skimOffR, imin, b_9, if_true, if_false, sr_self], by simp only [skimOffR, imin, b_9, if_true, if_false, sr_self]⟩)

set_option maxHeartbeats 4000000 in
set_option maxRecDepth 100000 in
theorem cX4_draw_ok (l : Launch) (G : GT) (X : St) (n : Nat) (hp : n < 11) (x y z : Int32) : MetI l G yX4_draw (wsG yX4_draw cX4_draw 6 (some .int)) (rmz 2 49) [.ref (ad G (65 * n + 0)), .int x, .int y, .int z] X (fun res Y => res = (drawR (X.1 n) x y z).1 ∧ Y = setRow X n (drawR (X.1 n) x y z).2) := by
  refine g_met (cc := cX4_draw) (maxL := 6) (ret := (some .int)) (by decide) rfl (Nat.le_of_ble_eq_true rfl) ?_
  intro p e s m below meth c ls C hr hlk hnm hW hl
  have hx := C.1.1
  have hb := C.1.2.1
  have hS : va_S (Ab G) s.heap s.heap [] := va_S.rf
  have hl : lv_has ls 6 [(0, .ref (ad G (65 * n + 0))), (1, .int x), (2, .int y), (3, .int z)] := hl
  refine lv_iload_n hx hb dX4_draw_0 rfl (lv_at hl 1 rfl) ?_
  refine lv_iconst (v := 3) hx hb dX4_draw_1 (by decide) ?_
  refine g_calli (va_runSN (As := [.int x, .int 3]) (rest := []) C.1 (cX7_outside_ok l G X x 3) (⟨va_cnB 2 C.1.2.2.2.2 (gN qw_827) rfl rfl rfl (C.2.2.1.1 _ nw_27) (C.1.2.2.2.2 _ (mc qw_71)) (by decide +kernel) ⟨Nat.le_of_ble_eq_true rfl, Nat.le_of_ble_eq_true rfl⟩, C.1.2.2.2.2 _ (mc qw_826), trivial⟩) (g_pre C hW hS [.int x, .int 3]) rfl rfl hl.1 rfl (lv_room (Nat.le_of_ble_eq_true rfl)) dX4_draw_2 ⟨Nat.zero_le _, Nat.zero_le _⟩) hS (fun r_2 Y_3 H_4 locs_5 hW_6 hS_7 h_1 => ?_)
  obtain ⟨h_1, hy_8⟩ := h_1
  replace hy_8 := hy_8.symm
  subst hy_8
  subst h_1
  refine lv_if_ne (tgt := 16) hx hb dX4_draw_5 (by decide) (fun b_9 => ?_) (fun b_9 => ?_)
  · refine lv_iconst (v := (-1)) hx hb dX4_draw_16 (by decide) ?_
    exact g_iret C hr hlk hW_6 hS_7 dX4_draw_17 (by exact ⟨by simp only [drawR, b_9, if_true, if_false, sr_self], by simp only [drawR, b_9, if_true, if_false, sr_self]⟩)
  · obtain ⟨f_10, hf_10, rfl⟩ := sOut_in3 b_9
    refine lv_iload_n hx hb dX4_draw_8 rfl (lv_at hl 2 rfl) ?_
    refine lv_iconst (v := 3) hx hb dX4_draw_9 (by decide) ?_
    refine g_calli (va_runSN (As := [.int y, .int 3]) (rest := []) C.1 (cX7_outside_ok l G X y 3) (⟨va_cnB 2 C.1.2.2.2.2 (gN qw_827) rfl rfl rfl (C.2.2.1.1 _ nw_27) (C.1.2.2.2.2 _ (mc qw_71)) (by decide +kernel) ⟨Nat.le_of_ble_eq_true rfl, Nat.le_of_ble_eq_true rfl⟩, C.1.2.2.2.2 _ (mc qw_826), trivial⟩) (g_pre C hW_6 hS_7 [.int y, .int 3]) rfl rfl hl.1 rfl (lv_room (Nat.le_of_ble_eq_true rfl)) dX4_draw_10 ⟨Nat.zero_le _, Nat.zero_le _⟩) hS_7 (fun r_12 Y_13 H_14 locs_15 hW_16 hS_17 h_11 => ?_)
    obtain ⟨h_11, hy_18⟩ := h_11
    replace hy_18 := hy_18.symm
    subst hy_18
    subst h_11
    refine lv_if_eq (tgt := 18) hx hb dX4_draw_13 (by decide) (fun b_19 => ?_) (fun b_19 => ?_)
    · obtain ⟨f_20, hf_20, rfl⟩ := sOut_in3 b_19
      refine lv_iload_n hx hb dX4_draw_18 rfl (lv_at hl 3 rfl) ?_
      refine lv_iconst (v := 1) hx hb dX4_draw_19 (by decide) ?_
      refine lv_icmp_lt (tgt := 29) hx hb dX4_draw_20 (by decide) (fun b_21 => ?_) (fun b_21 => ?_)
      · refine lv_bipush (v := (-2)) hx hb dX4_draw_29 (by decide) ?_
        exact g_iret C hr hlk hW_16 hS_17 dX4_draw_31 (by exact ⟨by simp only [drawR, clf (show f_10 < 2 ^ 31 by omega), clf (show f_20 < 2 ^ 31 by omega), b_9, b_19, b_21, if_true, if_false, sr_self], by simp only [drawR, clf (show f_10 < 2 ^ 31 by omega), clf (show f_20 < 2 ^ 31 by omega), b_9, b_19, b_21, if_true, if_false, sr_self]⟩)
      · refine lv_iload_n hx hb dX4_draw_23 rfl (lv_at hl 3 rfl) ?_
        refine lv_bipush (v := 40) hx hb dX4_draw_24 (by decide) ?_
        refine lv_icmp_le (tgt := 32) hx hb dX4_draw_26 (by decide) (fun b_22 => ?_) (fun b_22 => ?_)
        · refine lv_aload_n hx hb dX4_draw_32 rfl (lv_at hl 0 rfl) ?_
          refine gP_furnaces C hW_16 hp (hwc hwX4) (mc qw_155) dX4_draw_33 ?_
          refine lv_iload_n hx hb dX4_draw_36 rfl (lv_at hl 1 rfl) ?_
          refine g_fur C hW_16 hp f_10 (nI_clamp (by omega)) (vp_in_nI hf_10 (by decide)) dX4_draw_37 ?_
          refine lv_astore (lv' := [(4, .ref (ad G (65 * n + (11 + 3 * f_10)))), (0, .ref (ad G (65 * n + 0))), (1, .int (nI f_10)), (2, .int (nI f_20)), (3, .int z)]) hx hb dX4_draw_38 hl (by decide) rfl (fun ls_23 hl_24 => ?_)
          refine lv_aload_n hx hb dX4_draw_40 rfl (lv_at hl_24 1 rfl) ?_
          refine gP_ladles C hW_16 hp (hwc hwX4) (mc qw_159) dX4_draw_41 ?_
          refine lv_iload_n hx hb dX4_draw_44 rfl (lv_at hl_24 3 rfl) ?_
          refine g_lad C hW_16 hp f_20 (nI_clamp (by omega)) (vp_in_nI hf_20 (by decide)) dX4_draw_45 ?_
          refine lv_astore (lv' := [(5, .ref (ad G (65 * n + (20 + 3 * f_20)))), (4, .ref (ad G (65 * n + (11 + 3 * f_10)))), (0, .ref (ad G (65 * n + 0))), (1, .int (nI f_10)), (2, .int (nI f_20)), (3, .int z)]) hx hb dX4_draw_46 hl_24 (by decide) rfl (fun ls_25 hl_26 => ?_)
          refine lv_aload hx hb dX4_draw_48 (lv_at hl_26 1 rfl) ?_
          refine g_contentN C hW_16 (ves_fur (G := G) hp hf_10) (hwc hwX6) nw_20 dX4_draw_50 ?_
          refine g_calli (va_runV (As := []) (rest := []) C.1 (cX3_sum_ok l G X (65 * n + (12 + 3 * f_10)) (65 * n + (13 + 3 * f_10)) n (9 + 6 * f_10) ((ves_fur (G := G) hp hf_10).mix)) (cwV 0 C.1.2.2.2.2 (gV qw_337 qw_338 qw_339 qw_73 qw_340) rfl rfl rfl (by decide +kernel) ⟨Nat.le_of_ble_eq_true rfl, Nat.le_of_ble_eq_true rfl⟩) (g_rMix C hW_16 hS_17 (ves_fur (G := G) hp hf_10).mix []) rfl rfl hl_26.1 rfl (lv_room (Nat.le_of_ble_eq_true rfl)) dX4_draw_53 ⟨Nat.zero_le _, Nat.zero_le _⟩) hS_17 (fun r_28 Y_29 H_30 locs_31 hW_32 hS_33 h_27 => ?_)
          obtain ⟨h_27, hy_34⟩ := h_27
          replace hy_34 := hy_34.symm
          subst hy_34
          subst h_27
          refine lv_iload_n hx hb dX4_draw_56 rfl (lv_at hl_26 5 rfl) ?_
          refine lv_icmp_ge (tgt := 63) hx hb dX4_draw_57 (by decide) (fun b_35 => ?_) (fun b_35 => ?_)
          · refine lv_aload hx hb dX4_draw_63 (lv_at hl_26 1 rfl) ?_
            refine g_calli (va_runV (As := []) (rest := []) C.1 (cX6_liquid_ok l G X (65 * n + (11 + 3 * f_10)) (65 * n + (12 + 3 * f_10)) (65 * n + (13 + 3 * f_10)) n (9 + 6 * f_10) 10 (ves_fur (G := G) hp hf_10)) (cwV 0 C.1.2.2.2.2 (gV qw_355 qw_356 qw_357 qw_74 qw_358) rfl rfl rfl (by decide +kernel) ⟨Nat.le_of_ble_eq_true rfl, Nat.le_of_ble_eq_true rfl⟩) (g_rVes C hW_32 hS_33 (ves_fur (G := G) hp hf_10) []) rfl rfl hl_26.1 rfl (lv_room (Nat.le_of_ble_eq_true rfl)) dX4_draw_65 ⟨Nat.zero_le _, Nat.zero_le _⟩) hS_33 (fun r_37 Y_38 H_39 locs_40 hW_41 hS_42 h_36 => ?_)
            obtain ⟨h_36, hy_43⟩ := h_36
            replace hy_43 := hy_43.symm
            subst hy_43
            subst h_36
            refine lv_if_ne (tgt := 74) hx hb dX4_draw_68 (by decide) (fun b_44 => ?_) (fun b_44 => ?_)
            · refine lv_aload hx hb dX4_draw_74 (lv_at hl_26 0 rfl) ?_
              refine g_contentN C hW_41 (ves_lad (G := G) hp hf_20) (hwc hwX6) nw_20 dX4_draw_76 ?_
              refine g_calli (va_runV (As := []) (rest := []) C.1 (cX3_sum_ok l G X (65 * n + (21 + 3 * f_20)) (65 * n + (22 + 3 * f_20)) n (27 + 5 * f_20) ((ves_lad (G := G) hp hf_20).mix)) (cwV 0 C.1.2.2.2.2 (gV qw_337 qw_338 qw_339 qw_73 qw_340) rfl rfl rfl (by decide +kernel) ⟨Nat.le_of_ble_eq_true rfl, Nat.le_of_ble_eq_true rfl⟩) (g_rMix C hW_41 hS_42 (ves_lad (G := G) hp hf_20).mix []) rfl rfl hl_26.1 rfl (lv_room (Nat.le_of_ble_eq_true rfl)) dX4_draw_79 ⟨Nat.zero_le _, Nat.zero_le _⟩) hS_42 (fun r_46 Y_47 H_48 locs_49 hW_50 hS_51 h_45 => ?_)
              obtain ⟨h_45, hy_52⟩ := h_45
              replace hy_52 := hy_52.symm
              subst hy_52
              subst h_45
              refine lv_iload_n hx hb dX4_draw_82 rfl (lv_at hl_26 5 rfl) ?_
              refine lv_iadd hx hb dX4_draw_83 ?_
              refine lv_bipush (v := 40) hx hb dX4_draw_84 (by decide) ?_
              refine lv_icmp_le (tgt := 92) hx hb dX4_draw_86 (by decide) (fun b_53 => ?_) (fun b_53 => ?_)
              · refine lv_aload hx hb dX4_draw_92 (lv_at hl_26 0 rfl) ?_
                refine lv_iload_n hx hb dX4_draw_94 rfl (lv_at hl_26 5 rfl) ?_
                refine lv_aload hx hb dX4_draw_95 (lv_at hl_26 1 rfl) ?_
                refine g_tempN C hW_50 (ves_fur (G := G) hp hf_10) (hwc hwX6) nw_22 dX4_draw_97 ?_
                refine g_callv (va_runV (As := [.int z, .int (X.1 n (9 + 6 * f_10 + 4))]) (rest := []) C.1 (cX6_blend_ok l G X (65 * n + (20 + 3 * f_20)) (65 * n + (21 + 3 * f_20)) (65 * n + (22 + 3 * f_20)) n (27 + 5 * f_20) 0 (ves_lad (G := G) hp hf_20) z (X.1 n (9 + 6 * f_10 + 4))) (cwV 2 C.1.2.2.2.2 (gV qw_833 qw_834 qw_835 qw_74 qw_836) rfl rfl rfl (by decide +kernel) ⟨Nat.le_of_ble_eq_true rfl, Nat.le_of_ble_eq_true rfl⟩) (g_rVes C hW_50 hS_51 (ves_lad (G := G) hp hf_20) [.int z, .int (X.1 n (9 + 6 * f_10 + 4))]) rfl rfl hl_26.1 rfl (lv_room (Nat.le_of_ble_eq_true rfl)) dX4_draw_100 ⟨Nat.zero_le _, Nat.zero_le _⟩) hS_51 (fun Y_55 H_56 locs_57 hW_58 hS_59 h_54 => ?_)
                obtain ⟨w_60, ew_60⟩ : ∃ Z9, Z9 = blendR (X.1 n) (27 + 5 * f_20) 0 z (X.1 n (9 + 6 * f_10 + 4)) := ⟨_, rfl⟩
                have hW_61 : Wd G (setRow X n w_60) H_56 := Wd.cast (by rw [h_54, ew_60]) hW_58
                refine lv_aload hx hb dX4_draw_103 (lv_at hl_26 1 rfl) ?_
                refine g_contentN C hW_61 (ves_fur (G := G) hp hf_10) (hwc hwX6) nw_20 dX4_draw_105 ?_
                refine lv_iload_n hx hb dX4_draw_108 rfl (lv_at hl_26 5 rfl) ?_
                refine lv_aload hx hb dX4_draw_109 (lv_at hl_26 0 rfl) ?_
                refine g_contentN C hW_61 (ves_lad (G := G) hp hf_20) (hwc hwX6) nw_20 dX4_draw_111 ?_
                refine g_callv (va_runV (As := [.int z, .ref (ad G (65 * n + (21 + 3 * f_20)))]) (rest := []) C.1 (cX3_movePart_ok l G (setRow X n w_60) (65 * n + (12 + 3 * f_10)) (65 * n + (13 + 3 * f_10)) n (9 + 6 * f_10) ((ves_fur (G := G) hp hf_10).mix) z (65 * n + (21 + 3 * f_20)) (65 * n + (22 + 3 * f_20)) (27 + 5 * f_20) ((ves_lad (G := G) hp hf_20).mix)) (cwV 2 C.1.2.2.2.2 (gV qw_858 qw_859 qw_860 qw_73 qw_861) rfl rfl rfl (by decide +kernel) ⟨Nat.le_of_ble_eq_true rfl, Nat.le_of_ble_eq_true rfl⟩) (g_rMix C hW_61 hS_59 (ves_fur (G := G) hp hf_10).mix [.int z, .ref (ad G (65 * n + (21 + 3 * f_20)))]) rfl rfl hl_26.1 rfl (lv_room (Nat.le_of_ble_eq_true rfl)) dX4_draw_114 ⟨Nat.zero_le _, Nat.zero_le _⟩) hS_59 (fun Y_63 H_64 locs_65 hW_66 hS_67 h_62 => ?_)
                obtain ⟨w_68, ew_68⟩ : ∃ Z9, Z9 = movePartR w_60 (9 + 6 * f_10) (27 + 5 * f_20) z := ⟨_, rfl⟩
                have hW_69 : Wd G (setRow X n w_68) H_64 := Wd.cast (by rw [h_62, ew_68]; exact ((congrArg (fun Z9 => setRow (setRow X n w_60) n (movePartR Z9 (9 + 6 * f_10) (27 + 5 * f_20) z)) rd_out).trans sr_out)) hW_66
                refine lv_aload hx hb dX4_draw_117 (lv_at hl_26 0 rfl) ?_
                refine g_tempN C hW_69 (ves_lad (G := G) hp hf_20) (hwc hwX6) nw_22 dX4_draw_119 ?_
                refine g_top (y := w_68 (27 + 5 * f_20 + 4)) (congrFun rd_out _) ?_
                exact g_iret C hr hlk hW_69 hS_67 dX4_draw_122 (by exact ⟨by simp only [drawR, clf (show f_10 < 2 ^ 31 by omega), clf (show f_20 < 2 ^ 31 by omega), b_9, b_19, b_21, b_22, b_35, b_44, b_53, ← ew_60, ← ew_68, if_true, if_false, sr_self], by simp only [drawR, clf (show f_10 < 2 ^ 31 by omega), clf (show f_20 < 2 ^ 31 by omega), b_9, b_19, b_21, b_22, b_35, b_44, b_53, ← ew_60, ← ew_68, if_true, if_false, sr_self]⟩)
              · refine lv_bipush (v := (-5)) hx hb dX4_draw_89 (by decide) ?_
                exact g_iret C hr hlk hW_50 hS_51 dX4_draw_91 (by exact ⟨by simp only [drawR, clf (show f_10 < 2 ^ 31 by omega), clf (show f_20 < 2 ^ 31 by omega), b_9, b_19, b_21, b_22, b_35, b_44, b_53, if_true, if_false, sr_self], by simp only [drawR, clf (show f_10 < 2 ^ 31 by omega), clf (show f_20 < 2 ^ 31 by omega), b_9, b_19, b_21, b_22, b_35, b_44, b_53, if_true, if_false, sr_self]⟩)
            · refine lv_bipush (v := (-4)) hx hb dX4_draw_71 (by decide) ?_
              exact g_iret C hr hlk hW_41 hS_42 dX4_draw_73 (by exact ⟨by simp only [drawR, clf (show f_10 < 2 ^ 31 by omega), clf (show f_20 < 2 ^ 31 by omega), b_9, b_19, b_21, b_22, b_35, b_44, if_true, if_false, sr_self], by simp only [drawR, clf (show f_10 < 2 ^ 31 by omega), clf (show f_20 < 2 ^ 31 by omega), b_9, b_19, b_21, b_22, b_35, b_44, if_true, if_false, sr_self]⟩)
          · refine lv_bipush (v := (-3)) hx hb dX4_draw_60 (by decide) ?_
            exact g_iret C hr hlk hW_32 hS_33 dX4_draw_62 (by exact ⟨by simp only [drawR, clf (show f_10 < 2 ^ 31 by omega), clf (show f_20 < 2 ^ 31 by omega), b_9, b_19, b_21, b_22, b_35, if_true, if_false, sr_self], by simp only [drawR, clf (show f_10 < 2 ^ 31 by omega), clf (show f_20 < 2 ^ 31 by omega), b_9, b_19, b_21, b_22, b_35, if_true, if_false, sr_self]⟩)
        · refine lv_bipush (v := (-2)) hx hb dX4_draw_29 (by decide) ?_
          exact g_iret C hr hlk hW_16 hS_17 dX4_draw_31 (by exact ⟨by simp only [drawR, clf (show f_10 < 2 ^ 31 by omega), clf (show f_20 < 2 ^ 31 by omega), b_9, b_19, b_21, b_22, if_true, if_false, sr_self], by simp only [drawR, clf (show f_10 < 2 ^ 31 by omega), clf (show f_20 < 2 ^ 31 by omega), b_9, b_19, b_21, b_22, if_true, if_false, sr_self]⟩)
    · refine lv_iconst (v := (-1)) hx hb dX4_draw_16 (by decide) ?_
      exact g_iret C hr hlk hW_16 hS_17 dX4_draw_17 (by exact ⟨by simp only [drawR, clf (show f_10 < 2 ^ 31 by omega), b_9, b_19, if_true, if_false, sr_self], by simp only [drawR, clf (show f_10 < 2 ^ 31 by omega), b_9, b_19, if_true, if_false, sr_self]⟩)

set_option maxHeartbeats 4000000 in
set_option maxRecDepth 100000 in
theorem cX4_cast_ok (l : Launch) (G : GT) (X : St) (n : Nat) (hp : n < 11) (hi : PInv (X.1 n)) (x y : Int32) : MetI l G yX4_cast (wsG yX4_cast cX4_cast 4 (some .int)) (rmz 2 49) [.ref (ad G (65 * n + 0)), .int x, .int y] X (fun res Y => res = (castR (X.1 n) x y).1 ∧ Y = setRow X n (castR (X.1 n) x y).2) := by
  refine g_met (cc := cX4_cast) (maxL := 4) (ret := (some .int)) (by decide) rfl (Nat.le_of_ble_eq_true rfl) ?_
  intro p e s m below meth c ls C hr hlk hnm hW hl
  have hx := C.1.1
  have hb := C.1.2.1
  have hS : va_S (Ab G) s.heap s.heap [] := va_S.rf
  have hl : lv_has ls 4 [(0, .ref (ad G (65 * n + 0))), (1, .int x), (2, .int y)] := hl
  obtain ⟨⟨km, hkm, em⟩, ⟨ki, hki, ei⟩⟩ := hi
  refine lv_iload_n hx hb dX4_cast_0 rfl (lv_at hl 1 rfl) ?_
  refine lv_iconst (v := 3) hx hb dX4_cast_1 (by decide) ?_
  refine g_calli (va_runSN (As := [.int x, .int 3]) (rest := []) C.1 (cX7_outside_ok l G X x 3) (⟨va_cnB 2 C.1.2.2.2.2 (gN qw_827) rfl rfl rfl (C.2.2.1.1 _ nw_27) (C.1.2.2.2.2 _ (mc qw_71)) (by decide +kernel) ⟨Nat.le_of_ble_eq_true rfl, Nat.le_of_ble_eq_true rfl⟩, C.1.2.2.2.2 _ (mc qw_826), trivial⟩) (g_pre C hW hS [.int x, .int 3]) rfl rfl hl.1 rfl (lv_room (Nat.le_of_ble_eq_true rfl)) dX4_cast_2 ⟨Nat.zero_le _, Nat.zero_le _⟩) hS (fun r_2 Y_3 H_4 locs_5 hW_6 hS_7 h_1 => ?_)
  obtain ⟨h_1, hy_8⟩ := h_1
  replace hy_8 := hy_8.symm
  subst hy_8
  subst h_1
  refine lv_if_ne (tgt := 19) hx hb dX4_cast_5 (by decide) (fun b_9 => ?_) (fun b_9 => ?_)
  · refine lv_iconst (v := (-1)) hx hb dX4_cast_19 (by decide) ?_
    exact g_iret C hr hlk hW_6 hS_7 dX4_cast_20 (by exact ⟨by simp only [castR, b_9, em, ei, pk_us, nI_1, nI_pred, Nat.add_sub_cancel, clf (show km < 2 ^ 31 by omega), clf (show ki < 2 ^ 31 by omega), if_true, if_false, sr_self], by simp only [castR, b_9, em, ei, pk_us, nI_1, nI_pred, Nat.add_sub_cancel, clf (show km < 2 ^ 31 by omega), clf (show ki < 2 ^ 31 by omega), if_true, if_false, sr_self]⟩)
  · obtain ⟨f_10, hf_10, rfl⟩ := sOut_in3 b_9
    refine lv_iload_n hx hb dX4_cast_8 rfl (lv_at hl 2 rfl) ?_
    refine lv_aload_n hx hb dX4_cast_9 rfl (lv_at hl 0 rfl) ?_
    refine gP_mouldCount C hW_6 hp (hwc hwX4) (mc qw_165) dX4_cast_10 ?_
    refine g_top (y := nI km) em ?_
    refine g_calli (va_runSN (As := [.int y, .int (nI km)]) (rest := []) C.1 (cX7_outside_ok l G X y (nI km)) (⟨va_cnB 2 C.1.2.2.2.2 (gN qw_827) rfl rfl rfl (C.2.2.1.1 _ nw_27) (C.1.2.2.2.2 _ (mc qw_71)) (by decide +kernel) ⟨Nat.le_of_ble_eq_true rfl, Nat.le_of_ble_eq_true rfl⟩, C.1.2.2.2.2 _ (mc qw_826), trivial⟩) (g_pre C hW_6 hS_7 [.int y, .int (nI km)]) rfl rfl hl.1 rfl (lv_room (Nat.le_of_ble_eq_true rfl)) dX4_cast_13 ⟨Nat.zero_le _, Nat.zero_le _⟩) hS_7 (fun r_12 Y_13 H_14 locs_15 hW_16 hS_17 h_11 => ?_)
    obtain ⟨h_11, hy_18⟩ := h_11
    replace hy_18 := hy_18.symm
    subst hy_18
    subst h_11
    refine lv_if_eq (tgt := 21) hx hb dX4_cast_16 (by decide) (fun b_19 => ?_) (fun b_19 => ?_)
    · obtain ⟨f_20, hf_20, rfl⟩ := sOut_in (n := km) (by omega) b_19
      refine lv_aload_n hx hb dX4_cast_21 rfl (lv_at hl 0 rfl) ?_
      refine gP_moulds C hW_16 hp (hwc hwX4) (mc qw_161) dX4_cast_22 ?_
      refine lv_iload_n hx hb dX4_cast_25 rfl (lv_at hl 2 rfl) ?_
      refine g_mou C hW_16 hp f_20 (nI_clamp (by omega)) (vp_in_nI (show f_20 < 6 by omega) (by decide)) dX4_cast_26 ?_
      refine g_calli (va_runV (As := []) (rest := []) C.1 (cX3_sum_ok l G X (65 * n + (29 + 2 * f_20)) (65 * n + (30 + 2 * f_20)) n (44 + 6 * f_20) (mix_mou (G := G) hp (show f_20 < 6 by omega))) (cwV 0 C.1.2.2.2.2 (gV qw_337 qw_338 qw_339 qw_73 qw_340) rfl rfl rfl (by decide +kernel) ⟨Nat.le_of_ble_eq_true rfl, Nat.le_of_ble_eq_true rfl⟩) (g_rMix C hW_16 hS_17 (mix_mou (G := G) hp (show f_20 < 6 by omega)) []) rfl rfl hl.1 rfl (lv_room (Nat.le_of_ble_eq_true rfl)) dX4_cast_27 ⟨Nat.zero_le _, Nat.zero_le _⟩) hS_17 (fun r_22 Y_23 H_24 locs_25 hW_26 hS_27 h_21 => ?_)
      obtain ⟨h_21, hy_28⟩ := h_21
      replace hy_28 := hy_28.symm
      subst hy_28
      subst h_21
      refine lv_if_le (tgt := 36) hx hb dX4_cast_30 (by decide) (fun b_29 => ?_) (fun b_29 => ?_)
      · refine lv_aload_n hx hb dX4_cast_36 rfl (lv_at hl 0 rfl) ?_
        refine gP_ladles C hW_26 hp (hwc hwX4) (mc qw_159) dX4_cast_37 ?_
        refine lv_iload_n hx hb dX4_cast_40 rfl (lv_at hl 1 rfl) ?_
        refine g_lad C hW_26 hp f_10 (nI_clamp (by omega)) (vp_in_nI hf_10 (by decide)) dX4_cast_41 ?_
        refine lv_astore_n (lv' := [(3, .ref (ad G (65 * n + (20 + 3 * f_10)))), (0, .ref (ad G (65 * n + 0))), (1, .int (nI f_10)), (2, .int (nI f_20))]) hx hb dX4_cast_42 rfl hl (by decide) rfl (fun ls_30 hl_31 => ?_)
        refine lv_aload_n hx hb dX4_cast_43 rfl (lv_at hl_31 0 rfl) ?_
        refine g_contentN C hW_26 (ves_lad (G := G) hp hf_10) (hwc hwX6) nw_20 dX4_cast_44 ?_
        refine g_calli (va_runV (As := []) (rest := []) C.1 (cX3_sum_ok l G X (65 * n + (21 + 3 * f_10)) (65 * n + (22 + 3 * f_10)) n (27 + 5 * f_10) ((ves_lad (G := G) hp hf_10).mix)) (cwV 0 C.1.2.2.2.2 (gV qw_337 qw_338 qw_339 qw_73 qw_340) rfl rfl rfl (by decide +kernel) ⟨Nat.le_of_ble_eq_true rfl, Nat.le_of_ble_eq_true rfl⟩) (g_rMix C hW_26 hS_27 (ves_lad (G := G) hp hf_10).mix []) rfl rfl hl_31.1 rfl (lv_room (Nat.le_of_ble_eq_true rfl)) dX4_cast_47 ⟨Nat.zero_le _, Nat.zero_le _⟩) hS_27 (fun r_33 Y_34 H_35 locs_36 hW_37 hS_38 h_32 => ?_)
        obtain ⟨h_32, hy_39⟩ := h_32
        replace hy_39 := hy_39.symm
        subst hy_39
        subst h_32
        refine lv_aload_n hx hb dX4_cast_50 rfl (lv_at hl_31 1 rfl) ?_
        refine gP_volumes C hW_37 hp (hwc hwX4) (mc qw_163) dX4_cast_51 ?_
        refine lv_iload_n hx hb dX4_cast_54 rfl (lv_at hl_31 3 rfl) ?_
        refine g_volsld C hW_37 hp f_20 (nI_clamp (by omega)) (vp_in_nI (show f_20 < 6 by omega) (by decide)) dX4_cast_55 ?_
        refine lv_icmp_ge (tgt := 62) hx hb dX4_cast_56 (by decide) (fun b_40 => ?_) (fun b_40 => ?_)
        · refine lv_aload_n hx hb dX4_cast_62 rfl (lv_at hl_31 0 rfl) ?_
          refine g_calli (va_runV (As := []) (rest := []) C.1 (cX6_liquid_ok l G X (65 * n + (20 + 3 * f_10)) (65 * n + (21 + 3 * f_10)) (65 * n + (22 + 3 * f_10)) n (27 + 5 * f_10) 0 (ves_lad (G := G) hp hf_10)) (cwV 0 C.1.2.2.2.2 (gV qw_355 qw_356 qw_357 qw_74 qw_358) rfl rfl rfl (by decide +kernel) ⟨Nat.le_of_ble_eq_true rfl, Nat.le_of_ble_eq_true rfl⟩) (g_rVes C hW_37 hS_38 (ves_lad (G := G) hp hf_10) []) rfl rfl hl_31.1 rfl (lv_room (Nat.le_of_ble_eq_true rfl)) dX4_cast_63 ⟨Nat.zero_le _, Nat.zero_le _⟩) hS_38 (fun r_42 Y_43 H_44 locs_45 hW_46 hS_47 h_41 => ?_)
          obtain ⟨h_41, hy_48⟩ := h_41
          replace hy_48 := hy_48.symm
          subst hy_48
          subst h_41
          refine lv_if_ne (tgt := 72) hx hb dX4_cast_66 (by decide) (fun b_49 => ?_) (fun b_49 => ?_)
          · refine lv_aload_n hx hb dX4_cast_72 rfl (lv_at hl_31 0 rfl) ?_
            refine g_contentN C hW_46 (ves_lad (G := G) hp hf_10) (hwc hwX6) nw_20 dX4_cast_73 ?_
            refine lv_aload_n hx hb dX4_cast_76 rfl (lv_at hl_31 1 rfl) ?_
            refine gP_volumes C hW_46 hp (hwc hwX4) (mc qw_163) dX4_cast_77 ?_
            refine lv_iload_n hx hb dX4_cast_80 rfl (lv_at hl_31 3 rfl) ?_
            refine g_volsld C hW_46 hp f_20 (nI_clamp (by omega)) (vp_in_nI (show f_20 < 6 by omega) (by decide)) dX4_cast_81 ?_
            refine lv_aload_n hx hb dX4_cast_82 rfl (lv_at hl_31 1 rfl) ?_
            refine gP_moulds C hW_46 hp (hwc hwX4) (mc qw_161) dX4_cast_83 ?_
            refine lv_iload_n hx hb dX4_cast_86 rfl (lv_at hl_31 3 rfl) ?_
            refine g_mou C hW_46 hp f_20 (nI_clamp (by omega)) (vp_in_nI (show f_20 < 6 by omega) (by decide)) dX4_cast_87 ?_
            refine g_callv (va_runV (As := [.int (X.1 n (48 + 6 * f_20)), .ref (ad G (65 * n + (29 + 2 * f_20)))]) (rest := []) C.1 (cX3_movePart_ok l G X (65 * n + (21 + 3 * f_10)) (65 * n + (22 + 3 * f_10)) n (27 + 5 * f_10) ((ves_lad (G := G) hp hf_10).mix) (X.1 n (48 + 6 * f_20)) (65 * n + (29 + 2 * f_20)) (65 * n + (30 + 2 * f_20)) (44 + 6 * f_20) (mix_mou (G := G) hp (show f_20 < 6 by omega))) (cwV 2 C.1.2.2.2.2 (gV qw_858 qw_859 qw_860 qw_73 qw_861) rfl rfl rfl (by decide +kernel) ⟨Nat.le_of_ble_eq_true rfl, Nat.le_of_ble_eq_true rfl⟩) (g_rMix C hW_46 hS_47 (ves_lad (G := G) hp hf_10).mix [.int (X.1 n (48 + 6 * f_20)), .ref (ad G (65 * n + (29 + 2 * f_20)))]) rfl rfl hl_31.1 rfl (lv_room (Nat.le_of_ble_eq_true rfl)) dX4_cast_88 ⟨Nat.zero_le _, Nat.zero_le _⟩) hS_47 (fun Y_51 H_52 locs_53 hW_54 hS_55 h_50 => ?_)
            obtain ⟨w_56, ew_56⟩ : ∃ Z9, Z9 = movePartR (X.1 n) (27 + 5 * f_10) (44 + 6 * f_20) (X.1 n (48 + 6 * f_20)) := ⟨_, rfl⟩
            have hW_57 : Wd G (setRow X n w_56) H_52 := Wd.cast (by rw [h_50, ew_56]) hW_54
            refine lv_aload_n hx hb dX4_cast_91 rfl (lv_at hl_31 0 rfl) ?_
            refine g_callv (va_runV (As := []) (rest := []) C.1 (cX6_chillIfEmpty_ok l G (setRow X n w_56) (65 * n + (20 + 3 * f_10)) (65 * n + (21 + 3 * f_10)) (65 * n + (22 + 3 * f_10)) n (27 + 5 * f_10) 0 (ves_lad (G := G) hp hf_10)) (cwV 0 C.1.2.2.2.2 (gV qw_876 qw_877 qw_878 qw_74 qw_879) rfl rfl rfl (by decide +kernel) ⟨Nat.le_of_ble_eq_true rfl, Nat.le_of_ble_eq_true rfl⟩) (g_rVes C hW_57 hS_55 (ves_lad (G := G) hp hf_10) []) rfl rfl hl_31.1 rfl (lv_room (Nat.le_of_ble_eq_true rfl)) dX4_cast_92 ⟨Nat.zero_le _, Nat.zero_le _⟩) hS_55 (fun Y_59 H_60 locs_61 hW_62 hS_63 h_58 => ?_)
            obtain ⟨w_64, ew_64⟩ : ∃ Z9, Z9 = chillR w_56 (27 + 5 * f_10) := ⟨_, rfl⟩
            have hW_65 : Wd G (setRow X n w_64) H_60 := Wd.cast (by rw [h_58, ew_64]; exact ((congrArg (fun Z9 => setRow (setRow X n w_56) n (chillR Z9 (27 + 5 * f_10))) rd_out).trans sr_out)) hW_62
            refine lv_aload_n hx hb dX4_cast_95 rfl (lv_at hl_31 0 rfl) ?_
            refine g_contentN C hW_65 (ves_lad (G := G) hp hf_10) (hwc hwX6) nw_20 dX4_cast_96 ?_
            refine g_calli (va_runV (As := []) (rest := []) C.1 (cX3_sum_ok l G (setRow X n w_64) (65 * n + (21 + 3 * f_10)) (65 * n + (22 + 3 * f_10)) n (27 + 5 * f_10) ((ves_lad (G := G) hp hf_10).mix)) (cwV 0 C.1.2.2.2.2 (gV qw_337 qw_338 qw_339 qw_73 qw_340) rfl rfl rfl (by decide +kernel) ⟨Nat.le_of_ble_eq_true rfl, Nat.le_of_ble_eq_true rfl⟩) (g_rMix C hW_65 hS_63 (ves_lad (G := G) hp hf_10).mix []) rfl rfl hl_31.1 rfl (lv_room (Nat.le_of_ble_eq_true rfl)) dX4_cast_99 ⟨Nat.zero_le _, Nat.zero_le _⟩) hS_63 (fun r_67 Y_68 H_69 locs_70 hW_71 hS_72 h_66 => ?_)
            obtain ⟨h_66, hy_73⟩ := h_66
            replace hy_73 := hy_73.symm
            subst hy_73
            replace h_66 := h_66.trans (congrArg (fun Z9 => sumW Z9 (27 + 5 * f_10)) rd_out)
            subst h_66
            exact g_iret C hr hlk hW_71 hS_72 dX4_cast_102 (by exact ⟨by simp only [castR, clf (show f_10 < 2 ^ 31 by omega), clf (show f_20 < 2 ^ 31 by omega), b_9, b_19, b_29, b_40, b_49, ← ew_56, ← ew_64, em, ei, pk_us, nI_1, nI_pred, Nat.add_sub_cancel, clf (show km < 2 ^ 31 by omega), clf (show ki < 2 ^ 31 by omega), if_true, if_false, sr_self], by simp only [castR, clf (show f_10 < 2 ^ 31 by omega), clf (show f_20 < 2 ^ 31 by omega), b_9, b_19, b_29, b_40, b_49, ← ew_56, ← ew_64, em, ei, pk_us, nI_1, nI_pred, Nat.add_sub_cancel, clf (show km < 2 ^ 31 by omega), clf (show ki < 2 ^ 31 by omega), if_true, if_false, sr_self]⟩)
          · refine lv_bipush (v := (-5)) hx hb dX4_cast_69 (by decide) ?_
            exact g_iret C hr hlk hW_46 hS_47 dX4_cast_71 (by exact ⟨by simp only [castR, clf (show f_10 < 2 ^ 31 by omega), clf (show f_20 < 2 ^ 31 by omega), b_9, b_19, b_29, b_40, b_49, em, ei, pk_us, nI_1, nI_pred, Nat.add_sub_cancel, clf (show km < 2 ^ 31 by omega), clf (show ki < 2 ^ 31 by omega), if_true, if_false, sr_self], by simp only [castR, clf (show f_10 < 2 ^ 31 by omega), clf (show f_20 < 2 ^ 31 by omega), b_9, b_19, b_29, b_40, b_49, em, ei, pk_us, nI_1, nI_pred, Nat.add_sub_cancel, clf (show km < 2 ^ 31 by omega), clf (show ki < 2 ^ 31 by omega), if_true, if_false, sr_self]⟩)
        · refine lv_bipush (v := (-3)) hx hb dX4_cast_59 (by decide) ?_
          exact g_iret C hr hlk hW_37 hS_38 dX4_cast_61 (by exact ⟨by simp only [castR, clf (show f_10 < 2 ^ 31 by omega), clf (show f_20 < 2 ^ 31 by omega), b_9, b_19, b_29, b_40, em, ei, pk_us, nI_1, nI_pred, Nat.add_sub_cancel, clf (show km < 2 ^ 31 by omega), clf (show ki < 2 ^ 31 by omega), if_true, if_false, sr_self], by simp only [castR, clf (show f_10 < 2 ^ 31 by omega), clf (show f_20 < 2 ^ 31 by omega), b_9, b_19, b_29, b_40, em, ei, pk_us, nI_1, nI_pred, Nat.add_sub_cancel, clf (show km < 2 ^ 31 by omega), clf (show ki < 2 ^ 31 by omega), if_true, if_false, sr_self]⟩)
      · refine lv_bipush (v := (-4)) hx hb dX4_cast_33 (by decide) ?_
        exact g_iret C hr hlk hW_26 hS_27 dX4_cast_35 (by exact ⟨by simp only [castR, clf (show f_10 < 2 ^ 31 by omega), clf (show f_20 < 2 ^ 31 by omega), b_9, b_19, b_29, em, ei, pk_us, nI_1, nI_pred, Nat.add_sub_cancel, clf (show km < 2 ^ 31 by omega), clf (show ki < 2 ^ 31 by omega), if_true, if_false, sr_self], by simp only [castR, clf (show f_10 < 2 ^ 31 by omega), clf (show f_20 < 2 ^ 31 by omega), b_9, b_19, b_29, em, ei, pk_us, nI_1, nI_pred, Nat.add_sub_cancel, clf (show km < 2 ^ 31 by omega), clf (show ki < 2 ^ 31 by omega), if_true, if_false, sr_self]⟩)
    · refine lv_iconst (v := (-1)) hx hb dX4_cast_19 (by decide) ?_
      exact g_iret C hr hlk hW_16 hS_17 dX4_cast_20 (by exact ⟨by simp only [castR, clf (show f_10 < 2 ^ 31 by omega), b_9, b_19, em, ei, pk_us, nI_1, nI_pred, Nat.add_sub_cancel, clf (show km < 2 ^ 31 by omega), clf (show ki < 2 ^ 31 by omega), if_true, if_false, sr_self], by simp only [castR, clf (show f_10 < 2 ^ 31 by omega), b_9, b_19, em, ei, pk_us, nI_1, nI_pred, Nat.add_sub_cancel, clf (show km < 2 ^ 31 by omega), clf (show ki < 2 ^ 31 by omega), if_true, if_false, sr_self]⟩)

set_option maxHeartbeats 4000000 in
set_option maxRecDepth 100000 in
theorem cX4_knockOut_ok (l : Launch) (G : GT) (X : St) (n : Nat) (hp : n < 11) (hi : PInv (X.1 n)) (x : Int32) : MetI l G yX4_knockOut (wsG yX4_knockOut cX4_knockOut 2 (some .int)) (rmz 2 221) [.ref (ad G (65 * n + 0)), .int x] X (fun res Y => res = (knockOutR (X.1 n) x).1 ∧ Y = setRow X n (knockOutR (X.1 n) x).2) := by
  refine g_met (cc := cX4_knockOut) (maxL := 2) (ret := (some .int)) (by decide) rfl (Nat.le_of_ble_eq_true rfl) ?_
  intro p e s m below meth c ls C hr hlk hnm hW hl
  have hx := C.1.1
  have hb := C.1.2.1
  have hS : va_S (Ab G) s.heap s.heap [] := va_S.rf
  have hl : lv_has ls 2 [(0, .ref (ad G (65 * n + 0))), (1, .int x)] := hl
  obtain ⟨⟨km, hkm, em⟩, ⟨ki, hki, ei⟩⟩ := hi
  refine lv_iload_n hx hb dX4_knockOut_0 rfl (lv_at hl 1 rfl) ?_
  refine lv_aload_n hx hb dX4_knockOut_1 rfl (lv_at hl 0 rfl) ?_
  refine gP_mouldCount C hW hp (hwc hwX4) (mc qw_165) dX4_knockOut_2 ?_
  refine g_top (y := nI km) em ?_
  refine g_calli (va_runSN (As := [.int x, .int (nI km)]) (rest := []) C.1 (cX7_outside_ok l G X x (nI km)) (⟨va_cnB 2 C.1.2.2.2.2 (gN qw_827) rfl rfl rfl (C.2.2.1.1 _ nw_27) (C.1.2.2.2.2 _ (mc qw_71)) (by decide +kernel) ⟨Nat.le_of_ble_eq_true rfl, Nat.le_of_ble_eq_true rfl⟩, C.1.2.2.2.2 _ (mc qw_826), trivial⟩) (g_pre C hW hS [.int x, .int (nI km)]) rfl rfl hl.1 rfl (lv_room (Nat.le_of_ble_eq_true rfl)) dX4_knockOut_5 ⟨Nat.zero_le _, Nat.zero_le _⟩) hS (fun r_2 Y_3 H_4 locs_5 hW_6 hS_7 h_1 => ?_)
  obtain ⟨h_1, hy_8⟩ := h_1
  replace hy_8 := hy_8.symm
  subst hy_8
  subst h_1
  refine lv_if_eq (tgt := 13) hx hb dX4_knockOut_8 (by decide) (fun b_9 => ?_) (fun b_9 => ?_)
  · obtain ⟨f_10, hf_10, rfl⟩ := sOut_in (n := km) (by omega) b_9
    refine lv_aload_n hx hb dX4_knockOut_13 rfl (lv_at hl 0 rfl) ?_
    refine gP_moulds C hW_6 hp (hwc hwX4) (mc qw_161) dX4_knockOut_14 ?_
    refine lv_iload_n hx hb dX4_knockOut_17 rfl (lv_at hl 1 rfl) ?_
    refine g_mou C hW_6 hp f_10 (nI_clamp (by omega)) (vp_in_nI (show f_10 < 6 by omega) (by decide)) dX4_knockOut_18 ?_
    refine g_calli (va_runV (As := []) (rest := []) C.1 (cX3_sum_ok l G X (65 * n + (29 + 2 * f_10)) (65 * n + (30 + 2 * f_10)) n (44 + 6 * f_10) (mix_mou (G := G) hp (show f_10 < 6 by omega))) (cwV 0 C.1.2.2.2.2 (gV qw_337 qw_338 qw_339 qw_73 qw_340) rfl rfl rfl (by decide +kernel) ⟨Nat.le_of_ble_eq_true rfl, Nat.le_of_ble_eq_true rfl⟩) (g_rMix C hW_6 hS_7 (mix_mou (G := G) hp (show f_10 < 6 by omega)) []) rfl rfl hl.1 rfl (lv_room (Nat.le_of_ble_eq_true rfl)) dX4_knockOut_19 ⟨Nat.zero_le _, Nat.zero_le _⟩) hS_7 (fun r_12 Y_13 H_14 locs_15 hW_16 hS_17 h_11 => ?_)
    obtain ⟨h_11, hy_18⟩ := h_11
    replace hy_18 := hy_18.symm
    subst hy_18
    subst h_11
    refine lv_if_ne (tgt := 28) hx hb dX4_knockOut_22 (by decide) (fun b_19 => ?_) (fun b_19 => ?_)
    · refine lv_aload_n hx hb dX4_knockOut_28 rfl (lv_at hl 0 rfl) ?_
      refine gP_ingotCount C hW_16 hp (hwc hwX4) (mc qw_169) dX4_knockOut_29 ?_
      refine g_top (y := nI ki) ei ?_
      refine lv_bipush (v := 12) hx hb dX4_knockOut_32 (by decide) ?_
      refine lv_icmp_lt (tgt := 40) hx hb dX4_knockOut_34 (by decide) (fun b_20 => ?_) (fun b_20 => ?_)
      · have hi12 : ki < 12 := nI_lt12 (by omega) b_20
        refine lv_aload_n hx hb dX4_knockOut_40 rfl (lv_at hl 0 rfl) ?_
        refine gP_ingots C hW_16 hp (hwc hwX4) (mc qw_167) dX4_knockOut_41 ?_
        refine lv_aload_n hx hb dX4_knockOut_44 rfl (lv_at hl 0 rfl) ?_
        refine gP_ingotCount C hW_16 hp (hwc hwX4) (mc qw_169) dX4_knockOut_45 ?_
        refine g_top (y := nI ki) ei ?_
        refine g_ing C hW_16 hp ki (nI_clamp (by omega)) (vp_in_nI (show ki < 12 by omega) (by decide)) dX4_knockOut_48 ?_
        refine lv_aload_n hx hb dX4_knockOut_49 rfl (lv_at hl 0 rfl) ?_
        refine gP_moulds C hW_16 hp (hwc hwX4) (mc qw_161) dX4_knockOut_50 ?_
        refine lv_iload_n hx hb dX4_knockOut_53 rfl (lv_at hl 1 rfl) ?_
        refine g_mou C hW_16 hp f_10 (nI_clamp (by omega)) (vp_in_nI (show f_10 < 6 by omega) (by decide)) dX4_knockOut_54 ?_
        refine g_callv (va_runV (As := [.ref (ad G (65 * n + (29 + 2 * f_10)))]) (rest := []) C.1 (cX3_copyFrom_ok l G X (65 * n + (41 + 2 * ki)) (65 * n + (42 + 2 * ki)) n (80 + 4 * ki) (mix_ing (G := G) hp (show ki < 12 by omega)) (65 * n + (29 + 2 * f_10)) (65 * n + (30 + 2 * f_10)) n (44 + 6 * f_10) (mix_mou (G := G) hp (show f_10 < 6 by omega))) (cwV 1 C.1.2.2.2.2 (gV qw_785 qw_781 qw_782 qw_73 qw_783) rfl rfl rfl (by decide +kernel) ⟨Nat.le_of_ble_eq_true rfl, Nat.le_of_ble_eq_true rfl⟩) (g_rMix C hW_16 hS_17 (mix_ing (G := G) hp (show ki < 12 by omega)) [.ref (ad G (65 * n + (29 + 2 * f_10)))]) rfl rfl hl.1 rfl (lv_room (Nat.le_of_ble_eq_true rfl)) dX4_knockOut_55 ⟨Nat.zero_le _, Nat.zero_le _⟩) hS_17 (fun Y_22 H_23 locs_24 hW_25 hS_26 h_21 => ?_)
        obtain ⟨w_27, ew_27⟩ : ∃ Z9, Z9 = cpyR (X.1 n) (80 + 4 * ki) (X.1 n) (44 + 6 * f_10) := ⟨_, rfl⟩
        have kn_28 : w_27 (42) = nI km := by rw [ew_27]; exact (kp_cpyR (by omega)).trans em
        have kn_29 : w_27 (43) = nI ki := by rw [ew_27]; exact (kp_cpyR (by omega)).trans ei
        have hW_30 : Wd G (setRow X n w_27) H_23 := Wd.cast (by rw [h_21, ew_27]) hW_25
        refine lv_aload_n hx hb dX4_knockOut_58 rfl (lv_at hl 0 rfl) ?_
        refine gP_moulds C hW_30 hp (hwc hwX4) (mc qw_161) dX4_knockOut_59 ?_
        refine lv_iload_n hx hb dX4_knockOut_62 rfl (lv_at hl 1 rfl) ?_
        refine g_mou C hW_30 hp f_10 (nI_clamp (by omega)) (vp_in_nI (show f_10 < 6 by omega) (by decide)) dX4_knockOut_63 ?_
        refine g_callv (va_runV (As := []) (rest := []) C.1 (cX3_clear_ok l G (setRow X n w_27) (65 * n + (29 + 2 * f_10)) (65 * n + (30 + 2 * f_10)) n (44 + 6 * f_10) (mix_mou (G := G) hp (show f_10 < 6 by omega))) (cwV 0 C.1.2.2.2.2 (gV qw_872 qw_873 qw_874 qw_73 qw_875) rfl rfl rfl (by decide +kernel) ⟨Nat.le_of_ble_eq_true rfl, Nat.le_of_ble_eq_true rfl⟩) (g_rMix C hW_30 hS_26 (mix_mou (G := G) hp (show f_10 < 6 by omega)) []) rfl rfl hl.1 rfl (lv_room (Nat.le_of_ble_eq_true rfl)) dX4_knockOut_64 ⟨Nat.zero_le _, Nat.zero_le _⟩) hS_26 (fun Y_32 H_33 locs_34 hW_35 hS_36 h_31 => ?_)
        obtain ⟨w_37, ew_37⟩ : ∃ Z9, Z9 = clrR w_27 (44 + 6 * f_10) := ⟨_, rfl⟩
        have kn_38 : w_37 (42) = nI km := by rw [ew_37]; exact (kp_clrR (by omega)).trans kn_28
        have kn_39 : w_37 (43) = nI ki := by rw [ew_37]; exact (kp_clrR (by omega)).trans kn_29
        have hW_40 : Wd G (setRow X n w_37) H_33 := Wd.cast (by rw [h_31, ew_37]; exact ((congrArg (fun Z9 => setRow (setRow X n w_27) n (clrR Z9 (44 + 6 * f_10))) rd_out).trans sr_out)) hW_35
        refine lv_aload_n hx hb dX4_knockOut_67 rfl (lv_at hl 0 rfl) ?_
        refine lv_dup hx hb dX4_knockOut_68 rfl ?_
        refine gP_ingotCount C hW_40 hp (hwc hwX4) (mc qw_169) dX4_knockOut_69 ?_
        refine g_top (y := w_37 (43)) (congrFun rd_out _) ?_
        refine g_top (y := nI ki) kn_39 ?_
        refine lv_iconst (v := 1) hx hb dX4_knockOut_72 (by decide) ?_
        refine lv_iadd hx hb dX4_knockOut_73 ?_
        refine g_top (y := nI (ki + 1)) (nI_add ki 1) ?_
        refine gP_ingotCountP C hW_40 hS_36 hp (hwc hwX4) (mc qw_169) dX4_knockOut_74 (fun H_41 locs_42 hW_43 hS_44 => ?_)
        obtain ⟨w_45, ew_45⟩ : ∃ Z9, Z9 = upd w_37 (43) (nI (ki + 1)) := ⟨_, rfl⟩
        have kn_46 : w_45 (42) = nI km := by rw [ew_45]; exact (pk_un (by omega)).trans kn_38
        have kn_47 : w_45 (43) = nI (ki + 1) := by rw [ew_45]; exact pk_us
        have hW_48 : Wd G (setRow X n w_45) H_41 := Wd.cast (by rw [ew_45]; exact st_out) hW_43
        refine lv_aload_n hx hb dX4_knockOut_77 rfl (lv_at hl 0 rfl) ?_
        refine gP_ingotCount C hW_48 hp (hwc hwX4) (mc qw_169) dX4_knockOut_78 ?_
        refine g_top (y := w_45 (43)) (congrFun rd_out _) ?_
        refine g_top (y := nI (ki + 1)) kn_47 ?_
        refine lv_iconst (v := 1) hx hb dX4_knockOut_81 (by decide) ?_
        refine lv_isub hx hb dX4_knockOut_82 ?_
        refine g_top (y := nI (ki + 1 - 1)) (pk_sub (a := (ki + 1)) (b := 1) (by omega)) ?_
        exact g_iret C hr hlk hW_48 hS_44 dX4_knockOut_83 (by exact ⟨by simp only [knockOutR, clf (show f_10 < 2 ^ 31 by omega), b_9, b_19, b_20, ← ew_27, ← ew_37, ← ew_45, em, ei, pk_us, nI_1, nI_pred, Nat.add_sub_cancel, clf (show km < 2 ^ 31 by omega), clf (show ki < 2 ^ 31 by omega), if_true, if_false, sr_self], by simp only [knockOutR, clf (show f_10 < 2 ^ 31 by omega), b_9, b_19, b_20, ← ew_27, ← ew_37, ← ew_45, em, ei, pk_us, nI_1, nI_pred, Nat.add_sub_cancel, clf (show km < 2 ^ 31 by omega), clf (show ki < 2 ^ 31 by omega), if_true, if_false, sr_self]⟩)
      · refine lv_bipush (v := (-4)) hx hb dX4_knockOut_37 (by decide) ?_
        exact g_iret C hr hlk hW_16 hS_17 dX4_knockOut_39 (by exact ⟨by simp only [knockOutR, clf (show f_10 < 2 ^ 31 by omega), b_9, b_19, b_20, em, ei, pk_us, nI_1, nI_pred, Nat.add_sub_cancel, clf (show km < 2 ^ 31 by omega), clf (show ki < 2 ^ 31 by omega), if_true, if_false, sr_self], by simp only [knockOutR, clf (show f_10 < 2 ^ 31 by omega), b_9, b_19, b_20, em, ei, pk_us, nI_1, nI_pred, Nat.add_sub_cancel, clf (show km < 2 ^ 31 by omega), clf (show ki < 2 ^ 31 by omega), if_true, if_false, sr_self]⟩)
    · refine lv_bipush (v := (-3)) hx hb dX4_knockOut_25 (by decide) ?_
      exact g_iret C hr hlk hW_16 hS_17 dX4_knockOut_27 (by exact ⟨by simp only [knockOutR, clf (show f_10 < 2 ^ 31 by omega), b_9, b_19, em, ei, pk_us, nI_1, nI_pred, Nat.add_sub_cancel, clf (show km < 2 ^ 31 by omega), clf (show ki < 2 ^ 31 by omega), if_true, if_false, sr_self], by simp only [knockOutR, clf (show f_10 < 2 ^ 31 by omega), b_9, b_19, em, ei, pk_us, nI_1, nI_pred, Nat.add_sub_cancel, clf (show km < 2 ^ 31 by omega), clf (show ki < 2 ^ 31 by omega), if_true, if_false, sr_self]⟩)
  · refine lv_iconst (v := (-1)) hx hb dX4_knockOut_11 (by decide) ?_
    exact g_iret C hr hlk hW_6 hS_7 dX4_knockOut_12 (by exact ⟨by simp only [knockOutR, b_9, em, ei, pk_us, nI_1, nI_pred, Nat.add_sub_cancel, clf (show km < 2 ^ 31 by omega), clf (show ki < 2 ^ 31 by omega), if_true, if_false, sr_self], by simp only [knockOutR, b_9, em, ei, pk_us, nI_1, nI_pred, Nat.add_sub_cancel, clf (show km < 2 ^ 31 by omega), clf (show ki < 2 ^ 31 by omega), if_true, if_false, sr_self]⟩)

set_option maxHeartbeats 4000000 in
set_option maxRecDepth 100000 in
theorem cX6_copyFrom_ok (l : Launch) (G : GT) (X : St) (k kc a r i : Nat) (L : Int32) (hv : Ves G k kc a r i L) (k2 kc2 a2 r2 i2 : Nat) (L2 : Int32) (hv2 : Ves G k2 kc2 a2 r2 i2 L2) (hne : r ≠ r2) : MetV l G yX6_copyFrom (wsG yX6_copyFrom cX6_copyFrom 2 none) (rmz 2 221) [.ref (ad G k), .ref (ad G k2)] X (fun Y => Y = setRow X r (cpvR (X.1 r) i (X.1 r2) i2)) := by
  refine g_met (cc := cX6_copyFrom) (maxL := 2) (ret := none) (by decide) rfl (Nat.le_of_ble_eq_true rfl) ?_
  intro p e s m below meth c ls C hr hlk hnm hW hl
  have hx := C.1.1
  have hb := C.1.2.1
  have hS : va_S (Ab G) s.heap s.heap [] := va_S.rf
  have hl : lv_has ls 2 [(0, .ref (ad G k)), (1, .ref (ad G k2))] := hl
  refine lv_aload_n hx hb dX6_copyFrom_0 rfl (lv_at hl 0 rfl) ?_
  refine g_content C hW hv (hwc hwX6) (mc qw_141) dX6_copyFrom_1 ?_
  refine lv_aload_n hx hb dX6_copyFrom_4 rfl (lv_at hl 1 rfl) ?_
  refine g_content C hW hv2 (hwc hwX6) (mc qw_141) dX6_copyFrom_5 ?_
  refine g_callv (va_runV (As := [.ref (ad G kc2)]) (rest := []) C.1 (cX3_copyFrom_ok l G X kc a r i hv.mix kc2 a2 r2 i2 hv2.mix) (cwV 1 C.1.2.2.2.2 (gV qw_780 qw_781 qw_782 qw_73 qw_783) rfl rfl rfl (by decide +kernel) ⟨Nat.le_of_ble_eq_true rfl, Nat.le_of_ble_eq_true rfl⟩) (g_rMix C hW hS hv.mix [.ref (ad G kc2)]) rfl rfl hl.1 rfl (lv_room (Nat.le_of_ble_eq_true rfl)) dX6_copyFrom_8 ⟨Nat.zero_le _, Nat.zero_le _⟩) hS (fun Y_2 H_3 locs_4 hW_5 hS_6 h_1 => ?_)
  obtain ⟨w_7, ew_7⟩ : ∃ Z9, Z9 = cpyR (X.1 r) i (X.1 r2) i2 := ⟨_, rfl⟩
  have hW_8 : Wd G (setRow X r w_7) H_3 := Wd.cast (by rw [h_1, ew_7]) hW_5
  refine lv_aload_n hx hb dX6_copyFrom_11 rfl (lv_at hl 0 rfl) ?_
  refine lv_aload_n hx hb dX6_copyFrom_12 rfl (lv_at hl 1 rfl) ?_
  refine g_temp C hW_8 hv2 (hwc hwX6) (mc qw_145) dX6_copyFrom_13 ?_
  refine g_top (y := X.1 r2 (i2 + 4)) (congrFun (rd_in hne.symm rfl) _) ?_
  refine g_tempP C hW_8 hS_6 hv (hwc hwX6) (mc qw_145) dX6_copyFrom_16 (fun H_9 locs_10 hW_11 hS_12 => ?_)
  obtain ⟨w_13, ew_13⟩ : ∃ Z9, Z9 = upd w_7 (i + 4) (X.1 r2 (i2 + 4)) := ⟨_, rfl⟩
  have hW_14 : Wd G (setRow X r w_13) H_9 := Wd.cast (by rw [ew_13]; exact st_out) hW_11
  exact g_vret C hr hlk hW_14 hS_12 dX6_copyFrom_19 (by subst ew_13; subst ew_7; rfl)

set_option maxHeartbeats 4000000 in
set_option maxRecDepth 100000 in
theorem cX4_copyFrom_ok (l : Launch) (G : GT) (X : St) (n : Nat) (hp : n < 11) (n2 : Nat) (hp2 : n2 < 11) (hne : n ≠ n2) : MetV l G yX4_copyFrom (wsG yX4_copyFrom cX4_copyFrom 3 none) (rmz 3 242) [.ref (ad G (65 * n + 0)), .ref (ad G (65 * n2 + 0))] X (fun Y => Y = setRow X n (cpPlantR (X.1 n) (X.1 n2))) := by
  refine g_met (cc := cX4_copyFrom) (maxL := 3) (ret := none) (by decide) rfl (Nat.le_of_ble_eq_true rfl) ?_
  intro p e s m below meth c ls C hr hlk hnm hW hl
  have hx := C.1.1
  have hb := C.1.2.1
  have hS : va_S (Ab G) s.heap s.heap [] := va_S.rf
  have hl : lv_has ls 3 [(0, .ref (ad G (65 * n + 0))), (1, .ref (ad G (65 * n2 + 0)))] := hl
  refine lv_iconst (v := 0) hx hb dX4_copyFrom_0 (by decide) ?_
  refine lv_istore_n (lv' := [(2, .int 0), (0, .ref (ad G (65 * n + 0))), (1, .ref (ad G (65 * n2 + 0)))]) hx hb dX4_copyFrom_1 rfl hl (by decide) rfl (fun ls_1 hl_2 => ?_)
  refine lv_iload_n hx hb dX4_copyFrom_2 rfl (lv_at hl_2 0 rfl) ?_
  refine lv_iconst (v := 3) hx hb dX4_copyFrom_3 (by decide) ?_
  refine lv_icmp_ge (tgt := 40) hx hb dX4_copyFrom_4 (by decide) (fun h9 => absurd h9 (by decide)) (fun _ => ?_)
  refine lv_aload_n hx hb dX4_copyFrom_7 rfl (lv_at hl_2 1 rfl) ?_
  refine gP_furnaces C hW hp (hwc hwX4) (mc qw_155) dX4_copyFrom_8 ?_
  refine lv_iload_n hx hb dX4_copyFrom_11 rfl (lv_at hl_2 0 rfl) ?_
  refine g_fur C hW hp 0 (by decide) (vlit (by decide)) dX4_copyFrom_12 ?_
  refine lv_aload_n hx hb dX4_copyFrom_13 rfl (lv_at hl_2 2 rfl) ?_
  refine gP_furnaces C hW hp2 (hwc hwX4) (mc qw_155) dX4_copyFrom_14 ?_
  refine lv_iload_n hx hb dX4_copyFrom_17 rfl (lv_at hl_2 0 rfl) ?_
  refine g_fur C hW hp2 0 (by decide) (vlit (by decide)) dX4_copyFrom_18 ?_
  refine g_callv (va_runV (As := [.ref (ad G (65 * n2 + (11 + 3 * 0)))]) (rest := []) C.1 (cX6_copyFrom_ok l G X (65 * n + (11 + 3 * 0)) (65 * n + (12 + 3 * 0)) (65 * n + (13 + 3 * 0)) n (9 + 6 * 0) 10 (ves_fur (G := G) hp (by decide)) (65 * n2 + (11 + 3 * 0)) (65 * n2 + (12 + 3 * 0)) (65 * n2 + (13 + 3 * 0)) n2 (9 + 6 * 0) 10 (ves_fur (G := G) hp2 (by decide)) hne) (cwV 1 C.1.2.2.2.2 (gV qw_776 qw_777 qw_778 qw_74 qw_779) rfl rfl rfl (by decide +kernel) ⟨Nat.le_of_ble_eq_true rfl, Nat.le_of_ble_eq_true rfl⟩) (g_rVes C hW hS (ves_fur (G := G) hp (by decide)) [.ref (ad G (65 * n2 + (11 + 3 * 0)))]) rfl rfl hl_2.1 rfl (lv_room (Nat.le_of_ble_eq_true rfl)) dX4_copyFrom_19 ⟨Nat.zero_le _, Nat.zero_le _⟩) hS (fun Y_4 H_5 locs_6 hW_7 hS_8 h_3 => ?_)
  obtain ⟨w_9, ew_9⟩ : ∃ Z9, Z9 = cpvR (X.1 n) (9 + 6 * 0) (X.1 n2) (9 + 6 * 0) := ⟨_, rfl⟩
  have hW_10 : Wd G (setRow X n w_9) H_5 := Wd.cast (by rw [h_3, ew_9]) hW_7
  refine lv_aload_n hx hb dX4_copyFrom_22 rfl (lv_at hl_2 1 rfl) ?_
  refine gP_fires C hW_10 hp (hwc hwX4) (mc qw_157) dX4_copyFrom_23 ?_
  refine lv_iload_n hx hb dX4_copyFrom_26 rfl (lv_at hl_2 0 rfl) ?_
  refine lv_aload_n hx hb dX4_copyFrom_27 rfl (lv_at hl_2 2 rfl) ?_
  refine gP_fires C hW_10 hp2 (hwc hwX4) (mc qw_157) dX4_copyFrom_28 ?_
  refine lv_iload_n hx hb dX4_copyFrom_31 rfl (lv_at hl_2 0 rfl) ?_
  refine g_firesld C hW_10 hp2 0 (by decide) (vlit (by decide)) dX4_copyFrom_32 ?_
  refine g_top (y := X.1 n2 (14 + 6 * 0)) (congrFun (rd_in hne.symm rfl) _) ?_
  refine g_firesst C hW_10 hS_8 hp 0 (by decide) (vlit (by decide)) dX4_copyFrom_33 (fun H_11 locs_12 hW_13 hS_14 => ?_)
  obtain ⟨w_15, ew_15⟩ : ∃ Z9, Z9 = upd w_9 (14 + 6 * 0) (X.1 n2 (14 + 6 * 0)) := ⟨_, rfl⟩
  have hW_16 : Wd G (setRow X n w_15) H_11 := Wd.cast (by rw [ew_15]; exact st_out) hW_13
  refine lv_iinc (v := 1) (lv' := [(2, .int 1), (0, .ref (ad G (65 * n + 0))), (1, .ref (ad G (65 * n2 + 0)))]) hx hb dX4_copyFrom_34 hl_2 (k := 0) rfl (by decide) (by decide) rfl (fun ls_17 hl_18 => ?_)
  refine lv_goto (tgt := 2) hx hb dX4_copyFrom_37 (by decide) ?_
  refine lv_iload_n hx hb dX4_copyFrom_2 rfl (lv_at hl_18 0 rfl) ?_
  refine lv_iconst (v := 3) hx hb dX4_copyFrom_3 (by decide) ?_
  refine lv_icmp_ge (tgt := 40) hx hb dX4_copyFrom_4 (by decide) (fun h9 => absurd h9 (by decide)) (fun _ => ?_)
  refine lv_aload_n hx hb dX4_copyFrom_7 rfl (lv_at hl_18 1 rfl) ?_
  refine gP_furnaces C hW_16 hp (hwc hwX4) (mc qw_155) dX4_copyFrom_8 ?_
  refine lv_iload_n hx hb dX4_copyFrom_11 rfl (lv_at hl_18 0 rfl) ?_
  refine g_fur C hW_16 hp 1 (by decide) (vlit (by decide)) dX4_copyFrom_12 ?_
  refine lv_aload_n hx hb dX4_copyFrom_13 rfl (lv_at hl_18 2 rfl) ?_
  refine gP_furnaces C hW_16 hp2 (hwc hwX4) (mc qw_155) dX4_copyFrom_14 ?_
  refine lv_iload_n hx hb dX4_copyFrom_17 rfl (lv_at hl_18 0 rfl) ?_
  refine g_fur C hW_16 hp2 1 (by decide) (vlit (by decide)) dX4_copyFrom_18 ?_
  refine g_callv (va_runV (As := [.ref (ad G (65 * n2 + (11 + 3 * 1)))]) (rest := []) C.1 (cX6_copyFrom_ok l G (setRow X n w_15) (65 * n + (11 + 3 * 1)) (65 * n + (12 + 3 * 1)) (65 * n + (13 + 3 * 1)) n (9 + 6 * 1) 10 (ves_fur (G := G) hp (by decide)) (65 * n2 + (11 + 3 * 1)) (65 * n2 + (12 + 3 * 1)) (65 * n2 + (13 + 3 * 1)) n2 (9 + 6 * 1) 10 (ves_fur (G := G) hp2 (by decide)) hne) (cwV 1 C.1.2.2.2.2 (gV qw_776 qw_777 qw_778 qw_74 qw_779) rfl rfl rfl (by decide +kernel) ⟨Nat.le_of_ble_eq_true rfl, Nat.le_of_ble_eq_true rfl⟩) (g_rVes C hW_16 hS_14 (ves_fur (G := G) hp (by decide)) [.ref (ad G (65 * n2 + (11 + 3 * 1)))]) rfl rfl hl_18.1 rfl (lv_room (Nat.le_of_ble_eq_true rfl)) dX4_copyFrom_19 ⟨Nat.zero_le _, Nat.zero_le _⟩) hS_14 (fun Y_20 H_21 locs_22 hW_23 hS_24 h_19 => ?_)
  rw [show (setRow X n w_15).1 n2 = X.1 n2 from (rd_in hne.symm rfl)] at h_19
  obtain ⟨w_25, ew_25⟩ : ∃ Z9, Z9 = cpvR w_15 (9 + 6 * 1) (X.1 n2) (9 + 6 * 1) := ⟨_, rfl⟩
  have hW_26 : Wd G (setRow X n w_25) H_21 := Wd.cast (by rw [h_19, ew_25]; exact ((congrArg (fun Z9 => setRow (setRow X n w_15) n (cpvR Z9 (9 + 6 * 1) (X.1 n2) (9 + 6 * 1))) rd_out).trans sr_out)) hW_23
  refine lv_aload_n hx hb dX4_copyFrom_22 rfl (lv_at hl_18 1 rfl) ?_
  refine gP_fires C hW_26 hp (hwc hwX4) (mc qw_157) dX4_copyFrom_23 ?_
  refine lv_iload_n hx hb dX4_copyFrom_26 rfl (lv_at hl_18 0 rfl) ?_
  refine lv_aload_n hx hb dX4_copyFrom_27 rfl (lv_at hl_18 2 rfl) ?_
  refine gP_fires C hW_26 hp2 (hwc hwX4) (mc qw_157) dX4_copyFrom_28 ?_
  refine lv_iload_n hx hb dX4_copyFrom_31 rfl (lv_at hl_18 0 rfl) ?_
  refine g_firesld C hW_26 hp2 1 (by decide) (vlit (by decide)) dX4_copyFrom_32 ?_
  refine g_top (y := X.1 n2 (14 + 6 * 1)) (congrFun (rd_in hne.symm rfl) _) ?_
  refine g_firesst C hW_26 hS_24 hp 1 (by decide) (vlit (by decide)) dX4_copyFrom_33 (fun H_27 locs_28 hW_29 hS_30 => ?_)
  obtain ⟨w_31, ew_31⟩ : ∃ Z9, Z9 = upd w_25 (14 + 6 * 1) (X.1 n2 (14 + 6 * 1)) := ⟨_, rfl⟩
  have hW_32 : Wd G (setRow X n w_31) H_27 := Wd.cast (by rw [ew_31]; exact st_out) hW_29
  refine lv_iinc (v := 2) (lv' := [(2, .int 2), (0, .ref (ad G (65 * n + 0))), (1, .ref (ad G (65 * n2 + 0)))]) hx hb dX4_copyFrom_34 hl_18 (k := 0) rfl (by decide) (by decide) rfl (fun ls_33 hl_34 => ?_)
  refine lv_goto (tgt := 2) hx hb dX4_copyFrom_37 (by decide) ?_
  refine lv_iload_n hx hb dX4_copyFrom_2 rfl (lv_at hl_34 0 rfl) ?_
  refine lv_iconst (v := 3) hx hb dX4_copyFrom_3 (by decide) ?_
  refine lv_icmp_ge (tgt := 40) hx hb dX4_copyFrom_4 (by decide) (fun h9 => absurd h9 (by decide)) (fun _ => ?_)
  refine lv_aload_n hx hb dX4_copyFrom_7 rfl (lv_at hl_34 1 rfl) ?_
  refine gP_furnaces C hW_32 hp (hwc hwX4) (mc qw_155) dX4_copyFrom_8 ?_
  refine lv_iload_n hx hb dX4_copyFrom_11 rfl (lv_at hl_34 0 rfl) ?_
  refine g_fur C hW_32 hp 2 (by decide) (vlit (by decide)) dX4_copyFrom_12 ?_
  refine lv_aload_n hx hb dX4_copyFrom_13 rfl (lv_at hl_34 2 rfl) ?_
  refine gP_furnaces C hW_32 hp2 (hwc hwX4) (mc qw_155) dX4_copyFrom_14 ?_
  refine lv_iload_n hx hb dX4_copyFrom_17 rfl (lv_at hl_34 0 rfl) ?_
  refine g_fur C hW_32 hp2 2 (by decide) (vlit (by decide)) dX4_copyFrom_18 ?_
  refine g_callv (va_runV (As := [.ref (ad G (65 * n2 + (11 + 3 * 2)))]) (rest := []) C.1 (cX6_copyFrom_ok l G (setRow X n w_31) (65 * n + (11 + 3 * 2)) (65 * n + (12 + 3 * 2)) (65 * n + (13 + 3 * 2)) n (9 + 6 * 2) 10 (ves_fur (G := G) hp (by decide)) (65 * n2 + (11 + 3 * 2)) (65 * n2 + (12 + 3 * 2)) (65 * n2 + (13 + 3 * 2)) n2 (9 + 6 * 2) 10 (ves_fur (G := G) hp2 (by decide)) hne) (cwV 1 C.1.2.2.2.2 (gV qw_776 qw_777 qw_778 qw_74 qw_779) rfl rfl rfl (by decide +kernel) ⟨Nat.le_of_ble_eq_true rfl, Nat.le_of_ble_eq_true rfl⟩) (g_rVes C hW_32 hS_30 (ves_fur (G := G) hp (by decide)) [.ref (ad G (65 * n2 + (11 + 3 * 2)))]) rfl rfl hl_34.1 rfl (lv_room (Nat.le_of_ble_eq_true rfl)) dX4_copyFrom_19 ⟨Nat.zero_le _, Nat.zero_le _⟩) hS_30 (fun Y_36 H_37 locs_38 hW_39 hS_40 h_35 => ?_)
  rw [show (setRow X n w_31).1 n2 = X.1 n2 from (rd_in hne.symm rfl)] at h_35
  obtain ⟨w_41, ew_41⟩ : ∃ Z9, Z9 = cpvR w_31 (9 + 6 * 2) (X.1 n2) (9 + 6 * 2) := ⟨_, rfl⟩
  have hW_42 : Wd G (setRow X n w_41) H_37 := Wd.cast (by rw [h_35, ew_41]; exact ((congrArg (fun Z9 => setRow (setRow X n w_31) n (cpvR Z9 (9 + 6 * 2) (X.1 n2) (9 + 6 * 2))) rd_out).trans sr_out)) hW_39
  refine lv_aload_n hx hb dX4_copyFrom_22 rfl (lv_at hl_34 1 rfl) ?_
  refine gP_fires C hW_42 hp (hwc hwX4) (mc qw_157) dX4_copyFrom_23 ?_
  refine lv_iload_n hx hb dX4_copyFrom_26 rfl (lv_at hl_34 0 rfl) ?_
  refine lv_aload_n hx hb dX4_copyFrom_27 rfl (lv_at hl_34 2 rfl) ?_
  refine gP_fires C hW_42 hp2 (hwc hwX4) (mc qw_157) dX4_copyFrom_28 ?_
  refine lv_iload_n hx hb dX4_copyFrom_31 rfl (lv_at hl_34 0 rfl) ?_
  refine g_firesld C hW_42 hp2 2 (by decide) (vlit (by decide)) dX4_copyFrom_32 ?_
  refine g_top (y := X.1 n2 (14 + 6 * 2)) (congrFun (rd_in hne.symm rfl) _) ?_
  refine g_firesst C hW_42 hS_40 hp 2 (by decide) (vlit (by decide)) dX4_copyFrom_33 (fun H_43 locs_44 hW_45 hS_46 => ?_)
  obtain ⟨w_47, ew_47⟩ : ∃ Z9, Z9 = upd w_41 (14 + 6 * 2) (X.1 n2 (14 + 6 * 2)) := ⟨_, rfl⟩
  have hW_48 : Wd G (setRow X n w_47) H_43 := Wd.cast (by rw [ew_47]; exact st_out) hW_45
  refine lv_iinc (v := 3) (lv' := [(2, .int 3), (0, .ref (ad G (65 * n + 0))), (1, .ref (ad G (65 * n2 + 0)))]) hx hb dX4_copyFrom_34 hl_34 (k := 0) rfl (by decide) (by decide) rfl (fun ls_49 hl_50 => ?_)
  refine lv_goto (tgt := 2) hx hb dX4_copyFrom_37 (by decide) ?_
  refine lv_iload_n hx hb dX4_copyFrom_2 rfl (lv_at hl_50 0 rfl) ?_
  refine lv_iconst (v := 3) hx hb dX4_copyFrom_3 (by decide) ?_
  refine lv_icmp_ge (tgt := 40) hx hb dX4_copyFrom_4 (by decide) (fun _ => ?_) (fun h9 => absurd h9 (by decide))
  refine lv_iconst (v := 0) hx hb dX4_copyFrom_40 (by decide) ?_
  refine lv_istore_n (lv' := [(2, .int 0), (0, .ref (ad G (65 * n + 0))), (1, .ref (ad G (65 * n2 + 0)))]) hx hb dX4_copyFrom_41 rfl hl_50 (by decide) rfl (fun ls_51 hl_52 => ?_)
  refine lv_iload_n hx hb dX4_copyFrom_42 rfl (lv_at hl_52 0 rfl) ?_
  refine lv_iconst (v := 3) hx hb dX4_copyFrom_43 (by decide) ?_
  refine lv_icmp_ge (tgt := 68) hx hb dX4_copyFrom_44 (by decide) (fun h9 => absurd h9 (by decide)) (fun _ => ?_)
  refine lv_aload_n hx hb dX4_copyFrom_47 rfl (lv_at hl_52 1 rfl) ?_
  refine gP_ladles C hW_48 hp (hwc hwX4) (mc qw_159) dX4_copyFrom_48 ?_
  refine lv_iload_n hx hb dX4_copyFrom_51 rfl (lv_at hl_52 0 rfl) ?_
  refine g_lad C hW_48 hp 0 (by decide) (vlit (by decide)) dX4_copyFrom_52 ?_
  refine lv_aload_n hx hb dX4_copyFrom_53 rfl (lv_at hl_52 2 rfl) ?_
  refine gP_ladles C hW_48 hp2 (hwc hwX4) (mc qw_159) dX4_copyFrom_54 ?_
  refine lv_iload_n hx hb dX4_copyFrom_57 rfl (lv_at hl_52 0 rfl) ?_
  refine g_lad C hW_48 hp2 0 (by decide) (vlit (by decide)) dX4_copyFrom_58 ?_
  refine g_callv (va_runV (As := [.ref (ad G (65 * n2 + (20 + 3 * 0)))]) (rest := []) C.1 (cX6_copyFrom_ok l G (setRow X n w_47) (65 * n + (20 + 3 * 0)) (65 * n + (21 + 3 * 0)) (65 * n + (22 + 3 * 0)) n (27 + 5 * 0) 0 (ves_lad (G := G) hp (by decide)) (65 * n2 + (20 + 3 * 0)) (65 * n2 + (21 + 3 * 0)) (65 * n2 + (22 + 3 * 0)) n2 (27 + 5 * 0) 0 (ves_lad (G := G) hp2 (by decide)) hne) (cwV 1 C.1.2.2.2.2 (gV qw_776 qw_777 qw_778 qw_74 qw_779) rfl rfl rfl (by decide +kernel) ⟨Nat.le_of_ble_eq_true rfl, Nat.le_of_ble_eq_true rfl⟩) (g_rVes C hW_48 hS_46 (ves_lad (G := G) hp (by decide)) [.ref (ad G (65 * n2 + (20 + 3 * 0)))]) rfl rfl hl_52.1 rfl (lv_room (Nat.le_of_ble_eq_true rfl)) dX4_copyFrom_59 ⟨Nat.zero_le _, Nat.zero_le _⟩) hS_46 (fun Y_54 H_55 locs_56 hW_57 hS_58 h_53 => ?_)
  rw [show (setRow X n w_47).1 n2 = X.1 n2 from (rd_in hne.symm rfl)] at h_53
  obtain ⟨w_59, ew_59⟩ : ∃ Z9, Z9 = cpvR w_47 (27 + 5 * 0) (X.1 n2) (27 + 5 * 0) := ⟨_, rfl⟩
  have hW_60 : Wd G (setRow X n w_59) H_55 := Wd.cast (by rw [h_53, ew_59]; exact ((congrArg (fun Z9 => setRow (setRow X n w_47) n (cpvR Z9 (27 + 5 * 0) (X.1 n2) (27 + 5 * 0))) rd_out).trans sr_out)) hW_57
  refine lv_iinc (v := 1) (lv' := [(2, .int 1), (0, .ref (ad G (65 * n + 0))), (1, .ref (ad G (65 * n2 + 0)))]) hx hb dX4_copyFrom_62 hl_52 (k := 0) rfl (by decide) (by decide) rfl (fun ls_61 hl_62 => ?_)
  refine lv_goto (tgt := 42) hx hb dX4_copyFrom_65 (by decide) ?_
  refine lv_iload_n hx hb dX4_copyFrom_42 rfl (lv_at hl_62 0 rfl) ?_
  refine lv_iconst (v := 3) hx hb dX4_copyFrom_43 (by decide) ?_
  refine lv_icmp_ge (tgt := 68) hx hb dX4_copyFrom_44 (by decide) (fun h9 => absurd h9 (by decide)) (fun _ => ?_)
  refine lv_aload_n hx hb dX4_copyFrom_47 rfl (lv_at hl_62 1 rfl) ?_
  refine gP_ladles C hW_60 hp (hwc hwX4) (mc qw_159) dX4_copyFrom_48 ?_
  refine lv_iload_n hx hb dX4_copyFrom_51 rfl (lv_at hl_62 0 rfl) ?_
  refine g_lad C hW_60 hp 1 (by decide) (vlit (by decide)) dX4_copyFrom_52 ?_
  refine lv_aload_n hx hb dX4_copyFrom_53 rfl (lv_at hl_62 2 rfl) ?_
  refine gP_ladles C hW_60 hp2 (hwc hwX4) (mc qw_159) dX4_copyFrom_54 ?_
  refine lv_iload_n hx hb dX4_copyFrom_57 rfl (lv_at hl_62 0 rfl) ?_
  refine g_lad C hW_60 hp2 1 (by decide) (vlit (by decide)) dX4_copyFrom_58 ?_
  refine g_callv (va_runV (As := [.ref (ad G (65 * n2 + (20 + 3 * 1)))]) (rest := []) C.1 (cX6_copyFrom_ok l G (setRow X n w_59) (65 * n + (20 + 3 * 1)) (65 * n + (21 + 3 * 1)) (65 * n + (22 + 3 * 1)) n (27 + 5 * 1) 0 (ves_lad (G := G) hp (by decide)) (65 * n2 + (20 + 3 * 1)) (65 * n2 + (21 + 3 * 1)) (65 * n2 + (22 + 3 * 1)) n2 (27 + 5 * 1) 0 (ves_lad (G := G) hp2 (by decide)) hne) (cwV 1 C.1.2.2.2.2 (gV qw_776 qw_777 qw_778 qw_74 qw_779) rfl rfl rfl (by decide +kernel) ⟨Nat.le_of_ble_eq_true rfl, Nat.le_of_ble_eq_true rfl⟩) (g_rVes C hW_60 hS_58 (ves_lad (G := G) hp (by decide)) [.ref (ad G (65 * n2 + (20 + 3 * 1)))]) rfl rfl hl_62.1 rfl (lv_room (Nat.le_of_ble_eq_true rfl)) dX4_copyFrom_59 ⟨Nat.zero_le _, Nat.zero_le _⟩) hS_58 (fun Y_64 H_65 locs_66 hW_67 hS_68 h_63 => ?_)
  rw [show (setRow X n w_59).1 n2 = X.1 n2 from (rd_in hne.symm rfl)] at h_63
  obtain ⟨w_69, ew_69⟩ : ∃ Z9, Z9 = cpvR w_59 (27 + 5 * 1) (X.1 n2) (27 + 5 * 1) := ⟨_, rfl⟩
  have hW_70 : Wd G (setRow X n w_69) H_65 := Wd.cast (by rw [h_63, ew_69]; exact ((congrArg (fun Z9 => setRow (setRow X n w_59) n (cpvR Z9 (27 + 5 * 1) (X.1 n2) (27 + 5 * 1))) rd_out).trans sr_out)) hW_67
  refine lv_iinc (v := 2) (lv' := [(2, .int 2), (0, .ref (ad G (65 * n + 0))), (1, .ref (ad G (65 * n2 + 0)))]) hx hb dX4_copyFrom_62 hl_62 (k := 0) rfl (by decide) (by decide) rfl (fun ls_71 hl_72 => ?_)
  refine lv_goto (tgt := 42) hx hb dX4_copyFrom_65 (by decide) ?_
  refine lv_iload_n hx hb dX4_copyFrom_42 rfl (lv_at hl_72 0 rfl) ?_
  refine lv_iconst (v := 3) hx hb dX4_copyFrom_43 (by decide) ?_
  refine lv_icmp_ge (tgt := 68) hx hb dX4_copyFrom_44 (by decide) (fun h9 => absurd h9 (by decide)) (fun _ => ?_)
  refine lv_aload_n hx hb dX4_copyFrom_47 rfl (lv_at hl_72 1 rfl) ?_
  refine gP_ladles C hW_70 hp (hwc hwX4) (mc qw_159) dX4_copyFrom_48 ?_
  refine lv_iload_n hx hb dX4_copyFrom_51 rfl (lv_at hl_72 0 rfl) ?_
  refine g_lad C hW_70 hp 2 (by decide) (vlit (by decide)) dX4_copyFrom_52 ?_
  refine lv_aload_n hx hb dX4_copyFrom_53 rfl (lv_at hl_72 2 rfl) ?_
  refine gP_ladles C hW_70 hp2 (hwc hwX4) (mc qw_159) dX4_copyFrom_54 ?_
  refine lv_iload_n hx hb dX4_copyFrom_57 rfl (lv_at hl_72 0 rfl) ?_
  refine g_lad C hW_70 hp2 2 (by decide) (vlit (by decide)) dX4_copyFrom_58 ?_
  refine g_callv (va_runV (As := [.ref (ad G (65 * n2 + (20 + 3 * 2)))]) (rest := []) C.1 (cX6_copyFrom_ok l G (setRow X n w_69) (65 * n + (20 + 3 * 2)) (65 * n + (21 + 3 * 2)) (65 * n + (22 + 3 * 2)) n (27 + 5 * 2) 0 (ves_lad (G := G) hp (by decide)) (65 * n2 + (20 + 3 * 2)) (65 * n2 + (21 + 3 * 2)) (65 * n2 + (22 + 3 * 2)) n2 (27 + 5 * 2) 0 (ves_lad (G := G) hp2 (by decide)) hne) (cwV 1 C.1.2.2.2.2 (gV qw_776 qw_777 qw_778 qw_74 qw_779) rfl rfl rfl (by decide +kernel) ⟨Nat.le_of_ble_eq_true rfl, Nat.le_of_ble_eq_true rfl⟩) (g_rVes C hW_70 hS_68 (ves_lad (G := G) hp (by decide)) [.ref (ad G (65 * n2 + (20 + 3 * 2)))]) rfl rfl hl_72.1 rfl (lv_room (Nat.le_of_ble_eq_true rfl)) dX4_copyFrom_59 ⟨Nat.zero_le _, Nat.zero_le _⟩) hS_68 (fun Y_74 H_75 locs_76 hW_77 hS_78 h_73 => ?_)
  rw [show (setRow X n w_69).1 n2 = X.1 n2 from (rd_in hne.symm rfl)] at h_73
  obtain ⟨w_79, ew_79⟩ : ∃ Z9, Z9 = cpvR w_69 (27 + 5 * 2) (X.1 n2) (27 + 5 * 2) := ⟨_, rfl⟩
  have hW_80 : Wd G (setRow X n w_79) H_75 := Wd.cast (by rw [h_73, ew_79]; exact ((congrArg (fun Z9 => setRow (setRow X n w_69) n (cpvR Z9 (27 + 5 * 2) (X.1 n2) (27 + 5 * 2))) rd_out).trans sr_out)) hW_77
  refine lv_iinc (v := 3) (lv' := [(2, .int 3), (0, .ref (ad G (65 * n + 0))), (1, .ref (ad G (65 * n2 + 0)))]) hx hb dX4_copyFrom_62 hl_72 (k := 0) rfl (by decide) (by decide) rfl (fun ls_81 hl_82 => ?_)
  refine lv_goto (tgt := 42) hx hb dX4_copyFrom_65 (by decide) ?_
  refine lv_iload_n hx hb dX4_copyFrom_42 rfl (lv_at hl_82 0 rfl) ?_
  refine lv_iconst (v := 3) hx hb dX4_copyFrom_43 (by decide) ?_
  refine lv_icmp_ge (tgt := 68) hx hb dX4_copyFrom_44 (by decide) (fun _ => ?_) (fun h9 => absurd h9 (by decide))
  refine lv_iconst (v := 0) hx hb dX4_copyFrom_68 (by decide) ?_
  refine lv_istore_n (lv' := [(2, .int 0), (0, .ref (ad G (65 * n + 0))), (1, .ref (ad G (65 * n2 + 0)))]) hx hb dX4_copyFrom_69 rfl hl_82 (by decide) rfl (fun ls_83 hl_84 => ?_)
  refine lv_iload_n hx hb dX4_copyFrom_70 rfl (lv_at hl_84 0 rfl) ?_
  refine lv_bipush (v := 6) hx hb dX4_copyFrom_71 (by decide) ?_
  refine lv_icmp_ge (tgt := 109) hx hb dX4_copyFrom_73 (by decide) (fun h9 => absurd h9 (by decide)) (fun _ => ?_)
  refine lv_aload_n hx hb dX4_copyFrom_76 rfl (lv_at hl_84 1 rfl) ?_
  refine gP_moulds C hW_80 hp (hwc hwX4) (mc qw_161) dX4_copyFrom_77 ?_
  refine lv_iload_n hx hb dX4_copyFrom_80 rfl (lv_at hl_84 0 rfl) ?_
  refine g_mou C hW_80 hp 0 (by decide) (vlit (by decide)) dX4_copyFrom_81 ?_
  refine lv_aload_n hx hb dX4_copyFrom_82 rfl (lv_at hl_84 2 rfl) ?_
  refine gP_moulds C hW_80 hp2 (hwc hwX4) (mc qw_161) dX4_copyFrom_83 ?_
  refine lv_iload_n hx hb dX4_copyFrom_86 rfl (lv_at hl_84 0 rfl) ?_
  refine g_mou C hW_80 hp2 0 (by decide) (vlit (by decide)) dX4_copyFrom_87 ?_
  refine g_callv (va_runV (As := [.ref (ad G (65 * n2 + (29 + 2 * 0)))]) (rest := []) C.1 (cX3_copyFrom_ok l G (setRow X n w_79) (65 * n + (29 + 2 * 0)) (65 * n + (30 + 2 * 0)) n (44 + 6 * 0) (mix_mou (G := G) hp (by decide)) (65 * n2 + (29 + 2 * 0)) (65 * n2 + (30 + 2 * 0)) n2 (44 + 6 * 0) (mix_mou (G := G) hp2 (by decide))) (cwV 1 C.1.2.2.2.2 (gV qw_785 qw_781 qw_782 qw_73 qw_783) rfl rfl rfl (by decide +kernel) ⟨Nat.le_of_ble_eq_true rfl, Nat.le_of_ble_eq_true rfl⟩) (g_rMix C hW_80 hS_78 (mix_mou (G := G) hp (by decide)) [.ref (ad G (65 * n2 + (29 + 2 * 0)))]) rfl rfl hl_84.1 rfl (lv_room (Nat.le_of_ble_eq_true rfl)) dX4_copyFrom_88 ⟨Nat.zero_le _, Nat.zero_le _⟩) hS_78 (fun Y_86 H_87 locs_88 hW_89 hS_90 h_85 => ?_)
  rw [show (setRow X n w_79).1 n2 = X.1 n2 from (rd_in hne.symm rfl)] at h_85
  obtain ⟨w_91, ew_91⟩ : ∃ Z9, Z9 = cpyR w_79 (44 + 6 * 0) (X.1 n2) (44 + 6 * 0) := ⟨_, rfl⟩
  have hW_92 : Wd G (setRow X n w_91) H_87 := Wd.cast (by rw [h_85, ew_91]; exact ((congrArg (fun Z9 => setRow (setRow X n w_79) n (cpyR Z9 (44 + 6 * 0) (X.1 n2) (44 + 6 * 0))) rd_out).trans sr_out)) hW_89
  refine lv_aload_n hx hb dX4_copyFrom_91 rfl (lv_at hl_84 1 rfl) ?_
  refine gP_volumes C hW_92 hp (hwc hwX4) (mc qw_163) dX4_copyFrom_92 ?_
  refine lv_iload_n hx hb dX4_copyFrom_95 rfl (lv_at hl_84 0 rfl) ?_
  refine lv_aload_n hx hb dX4_copyFrom_96 rfl (lv_at hl_84 2 rfl) ?_
  refine gP_volumes C hW_92 hp2 (hwc hwX4) (mc qw_163) dX4_copyFrom_97 ?_
  refine lv_iload_n hx hb dX4_copyFrom_100 rfl (lv_at hl_84 0 rfl) ?_
  refine g_volsld C hW_92 hp2 0 (by decide) (vlit (by decide)) dX4_copyFrom_101 ?_
  refine g_top (y := X.1 n2 (48 + 6 * 0)) (congrFun (rd_in hne.symm rfl) _) ?_
  refine g_volsst C hW_92 hS_90 hp 0 (by decide) (vlit (by decide)) dX4_copyFrom_102 (fun H_93 locs_94 hW_95 hS_96 => ?_)
  obtain ⟨w_97, ew_97⟩ : ∃ Z9, Z9 = upd w_91 (48 + 6 * 0) (X.1 n2 (48 + 6 * 0)) := ⟨_, rfl⟩
  have hW_98 : Wd G (setRow X n w_97) H_93 := Wd.cast (by rw [ew_97]; exact st_out) hW_95
  refine lv_iinc (v := 1) (lv' := [(2, .int 1), (0, .ref (ad G (65 * n + 0))), (1, .ref (ad G (65 * n2 + 0)))]) hx hb dX4_copyFrom_103 hl_84 (k := 0) rfl (by decide) (by decide) rfl (fun ls_99 hl_100 => ?_)
  refine lv_goto (tgt := 70) hx hb dX4_copyFrom_106 (by decide) ?_
  refine lv_iload_n hx hb dX4_copyFrom_70 rfl (lv_at hl_100 0 rfl) ?_
  refine lv_bipush (v := 6) hx hb dX4_copyFrom_71 (by decide) ?_
  refine lv_icmp_ge (tgt := 109) hx hb dX4_copyFrom_73 (by decide) (fun h9 => absurd h9 (by decide)) (fun _ => ?_)
  refine lv_aload_n hx hb dX4_copyFrom_76 rfl (lv_at hl_100 1 rfl) ?_
  refine gP_moulds C hW_98 hp (hwc hwX4) (mc qw_161) dX4_copyFrom_77 ?_
  refine lv_iload_n hx hb dX4_copyFrom_80 rfl (lv_at hl_100 0 rfl) ?_
  refine g_mou C hW_98 hp 1 (by decide) (vlit (by decide)) dX4_copyFrom_81 ?_
  refine lv_aload_n hx hb dX4_copyFrom_82 rfl (lv_at hl_100 2 rfl) ?_
  refine gP_moulds C hW_98 hp2 (hwc hwX4) (mc qw_161) dX4_copyFrom_83 ?_
  refine lv_iload_n hx hb dX4_copyFrom_86 rfl (lv_at hl_100 0 rfl) ?_
  refine g_mou C hW_98 hp2 1 (by decide) (vlit (by decide)) dX4_copyFrom_87 ?_
  refine g_callv (va_runV (As := [.ref (ad G (65 * n2 + (29 + 2 * 1)))]) (rest := []) C.1 (cX3_copyFrom_ok l G (setRow X n w_97) (65 * n + (29 + 2 * 1)) (65 * n + (30 + 2 * 1)) n (44 + 6 * 1) (mix_mou (G := G) hp (by decide)) (65 * n2 + (29 + 2 * 1)) (65 * n2 + (30 + 2 * 1)) n2 (44 + 6 * 1) (mix_mou (G := G) hp2 (by decide))) (cwV 1 C.1.2.2.2.2 (gV qw_785 qw_781 qw_782 qw_73 qw_783) rfl rfl rfl (by decide +kernel) ⟨Nat.le_of_ble_eq_true rfl, Nat.le_of_ble_eq_true rfl⟩) (g_rMix C hW_98 hS_96 (mix_mou (G := G) hp (by decide)) [.ref (ad G (65 * n2 + (29 + 2 * 1)))]) rfl rfl hl_100.1 rfl (lv_room (Nat.le_of_ble_eq_true rfl)) dX4_copyFrom_88 ⟨Nat.zero_le _, Nat.zero_le _⟩) hS_96 (fun Y_102 H_103 locs_104 hW_105 hS_106 h_101 => ?_)
  rw [show (setRow X n w_97).1 n2 = X.1 n2 from (rd_in hne.symm rfl)] at h_101
  obtain ⟨w_107, ew_107⟩ : ∃ Z9, Z9 = cpyR w_97 (44 + 6 * 1) (X.1 n2) (44 + 6 * 1) := ⟨_, rfl⟩
  have hW_108 : Wd G (setRow X n w_107) H_103 := Wd.cast (by rw [h_101, ew_107]; exact ((congrArg (fun Z9 => setRow (setRow X n w_97) n (cpyR Z9 (44 + 6 * 1) (X.1 n2) (44 + 6 * 1))) rd_out).trans sr_out)) hW_105
  refine lv_aload_n hx hb dX4_copyFrom_91 rfl (lv_at hl_100 1 rfl) ?_
  refine gP_volumes C hW_108 hp (hwc hwX4) (mc qw_163) dX4_copyFrom_92 ?_
  refine lv_iload_n hx hb dX4_copyFrom_95 rfl (lv_at hl_100 0 rfl) ?_
  refine lv_aload_n hx hb dX4_copyFrom_96 rfl (lv_at hl_100 2 rfl) ?_
  refine gP_volumes C hW_108 hp2 (hwc hwX4) (mc qw_163) dX4_copyFrom_97 ?_
  refine lv_iload_n hx hb dX4_copyFrom_100 rfl (lv_at hl_100 0 rfl) ?_
  refine g_volsld C hW_108 hp2 1 (by decide) (vlit (by decide)) dX4_copyFrom_101 ?_
  refine g_top (y := X.1 n2 (48 + 6 * 1)) (congrFun (rd_in hne.symm rfl) _) ?_
  refine g_volsst C hW_108 hS_106 hp 1 (by decide) (vlit (by decide)) dX4_copyFrom_102 (fun H_109 locs_110 hW_111 hS_112 => ?_)
  obtain ⟨w_113, ew_113⟩ : ∃ Z9, Z9 = upd w_107 (48 + 6 * 1) (X.1 n2 (48 + 6 * 1)) := ⟨_, rfl⟩
  have hW_114 : Wd G (setRow X n w_113) H_109 := Wd.cast (by rw [ew_113]; exact st_out) hW_111
  refine lv_iinc (v := 2) (lv' := [(2, .int 2), (0, .ref (ad G (65 * n + 0))), (1, .ref (ad G (65 * n2 + 0)))]) hx hb dX4_copyFrom_103 hl_100 (k := 0) rfl (by decide) (by decide) rfl (fun ls_115 hl_116 => ?_)
  refine lv_goto (tgt := 70) hx hb dX4_copyFrom_106 (by decide) ?_
  refine lv_iload_n hx hb dX4_copyFrom_70 rfl (lv_at hl_116 0 rfl) ?_
  refine lv_bipush (v := 6) hx hb dX4_copyFrom_71 (by decide) ?_
  refine lv_icmp_ge (tgt := 109) hx hb dX4_copyFrom_73 (by decide) (fun h9 => absurd h9 (by decide)) (fun _ => ?_)
  refine lv_aload_n hx hb dX4_copyFrom_76 rfl (lv_at hl_116 1 rfl) ?_
  refine gP_moulds C hW_114 hp (hwc hwX4) (mc qw_161) dX4_copyFrom_77 ?_
  refine lv_iload_n hx hb dX4_copyFrom_80 rfl (lv_at hl_116 0 rfl) ?_
  refine g_mou C hW_114 hp 2 (by decide) (vlit (by decide)) dX4_copyFrom_81 ?_
  refine lv_aload_n hx hb dX4_copyFrom_82 rfl (lv_at hl_116 2 rfl) ?_
  refine gP_moulds C hW_114 hp2 (hwc hwX4) (mc qw_161) dX4_copyFrom_83 ?_
  refine lv_iload_n hx hb dX4_copyFrom_86 rfl (lv_at hl_116 0 rfl) ?_
  refine g_mou C hW_114 hp2 2 (by decide) (vlit (by decide)) dX4_copyFrom_87 ?_
  refine g_callv (va_runV (As := [.ref (ad G (65 * n2 + (29 + 2 * 2)))]) (rest := []) C.1 (cX3_copyFrom_ok l G (setRow X n w_113) (65 * n + (29 + 2 * 2)) (65 * n + (30 + 2 * 2)) n (44 + 6 * 2) (mix_mou (G := G) hp (by decide)) (65 * n2 + (29 + 2 * 2)) (65 * n2 + (30 + 2 * 2)) n2 (44 + 6 * 2) (mix_mou (G := G) hp2 (by decide))) (cwV 1 C.1.2.2.2.2 (gV qw_785 qw_781 qw_782 qw_73 qw_783) rfl rfl rfl (by decide +kernel) ⟨Nat.le_of_ble_eq_true rfl, Nat.le_of_ble_eq_true rfl⟩) (g_rMix C hW_114 hS_112 (mix_mou (G := G) hp (by decide)) [.ref (ad G (65 * n2 + (29 + 2 * 2)))]) rfl rfl hl_116.1 rfl (lv_room (Nat.le_of_ble_eq_true rfl)) dX4_copyFrom_88 ⟨Nat.zero_le _, Nat.zero_le _⟩) hS_112 (fun Y_118 H_119 locs_120 hW_121 hS_122 h_117 => ?_)
  rw [show (setRow X n w_113).1 n2 = X.1 n2 from (rd_in hne.symm rfl)] at h_117
  obtain ⟨w_123, ew_123⟩ : ∃ Z9, Z9 = cpyR w_113 (44 + 6 * 2) (X.1 n2) (44 + 6 * 2) := ⟨_, rfl⟩
  have hW_124 : Wd G (setRow X n w_123) H_119 := Wd.cast (by rw [h_117, ew_123]; exact ((congrArg (fun Z9 => setRow (setRow X n w_113) n (cpyR Z9 (44 + 6 * 2) (X.1 n2) (44 + 6 * 2))) rd_out).trans sr_out)) hW_121
  refine lv_aload_n hx hb dX4_copyFrom_91 rfl (lv_at hl_116 1 rfl) ?_
  refine gP_volumes C hW_124 hp (hwc hwX4) (mc qw_163) dX4_copyFrom_92 ?_
  refine lv_iload_n hx hb dX4_copyFrom_95 rfl (lv_at hl_116 0 rfl) ?_
  refine lv_aload_n hx hb dX4_copyFrom_96 rfl (lv_at hl_116 2 rfl) ?_
  refine gP_volumes C hW_124 hp2 (hwc hwX4) (mc qw_163) dX4_copyFrom_97 ?_
  refine lv_iload_n hx hb dX4_copyFrom_100 rfl (lv_at hl_116 0 rfl) ?_
  refine g_volsld C hW_124 hp2 2 (by decide) (vlit (by decide)) dX4_copyFrom_101 ?_
  refine g_top (y := X.1 n2 (48 + 6 * 2)) (congrFun (rd_in hne.symm rfl) _) ?_
  refine g_volsst C hW_124 hS_122 hp 2 (by decide) (vlit (by decide)) dX4_copyFrom_102 (fun H_125 locs_126 hW_127 hS_128 => ?_)
  obtain ⟨w_129, ew_129⟩ : ∃ Z9, Z9 = upd w_123 (48 + 6 * 2) (X.1 n2 (48 + 6 * 2)) := ⟨_, rfl⟩
  have hW_130 : Wd G (setRow X n w_129) H_125 := Wd.cast (by rw [ew_129]; exact st_out) hW_127
  refine lv_iinc (v := 3) (lv' := [(2, .int 3), (0, .ref (ad G (65 * n + 0))), (1, .ref (ad G (65 * n2 + 0)))]) hx hb dX4_copyFrom_103 hl_116 (k := 0) rfl (by decide) (by decide) rfl (fun ls_131 hl_132 => ?_)
  refine lv_goto (tgt := 70) hx hb dX4_copyFrom_106 (by decide) ?_
  refine lv_iload_n hx hb dX4_copyFrom_70 rfl (lv_at hl_132 0 rfl) ?_
  refine lv_bipush (v := 6) hx hb dX4_copyFrom_71 (by decide) ?_
  refine lv_icmp_ge (tgt := 109) hx hb dX4_copyFrom_73 (by decide) (fun h9 => absurd h9 (by decide)) (fun _ => ?_)
  refine lv_aload_n hx hb dX4_copyFrom_76 rfl (lv_at hl_132 1 rfl) ?_
  refine gP_moulds C hW_130 hp (hwc hwX4) (mc qw_161) dX4_copyFrom_77 ?_
  refine lv_iload_n hx hb dX4_copyFrom_80 rfl (lv_at hl_132 0 rfl) ?_
  refine g_mou C hW_130 hp 3 (by decide) (vlit (by decide)) dX4_copyFrom_81 ?_
  refine lv_aload_n hx hb dX4_copyFrom_82 rfl (lv_at hl_132 2 rfl) ?_
  refine gP_moulds C hW_130 hp2 (hwc hwX4) (mc qw_161) dX4_copyFrom_83 ?_
  refine lv_iload_n hx hb dX4_copyFrom_86 rfl (lv_at hl_132 0 rfl) ?_
  refine g_mou C hW_130 hp2 3 (by decide) (vlit (by decide)) dX4_copyFrom_87 ?_
  refine g_callv (va_runV (As := [.ref (ad G (65 * n2 + (29 + 2 * 3)))]) (rest := []) C.1 (cX3_copyFrom_ok l G (setRow X n w_129) (65 * n + (29 + 2 * 3)) (65 * n + (30 + 2 * 3)) n (44 + 6 * 3) (mix_mou (G := G) hp (by decide)) (65 * n2 + (29 + 2 * 3)) (65 * n2 + (30 + 2 * 3)) n2 (44 + 6 * 3) (mix_mou (G := G) hp2 (by decide))) (cwV 1 C.1.2.2.2.2 (gV qw_785 qw_781 qw_782 qw_73 qw_783) rfl rfl rfl (by decide +kernel) ⟨Nat.le_of_ble_eq_true rfl, Nat.le_of_ble_eq_true rfl⟩) (g_rMix C hW_130 hS_128 (mix_mou (G := G) hp (by decide)) [.ref (ad G (65 * n2 + (29 + 2 * 3)))]) rfl rfl hl_132.1 rfl (lv_room (Nat.le_of_ble_eq_true rfl)) dX4_copyFrom_88 ⟨Nat.zero_le _, Nat.zero_le _⟩) hS_128 (fun Y_134 H_135 locs_136 hW_137 hS_138 h_133 => ?_)
  rw [show (setRow X n w_129).1 n2 = X.1 n2 from (rd_in hne.symm rfl)] at h_133
  obtain ⟨w_139, ew_139⟩ : ∃ Z9, Z9 = cpyR w_129 (44 + 6 * 3) (X.1 n2) (44 + 6 * 3) := ⟨_, rfl⟩
  have hW_140 : Wd G (setRow X n w_139) H_135 := Wd.cast (by rw [h_133, ew_139]; exact ((congrArg (fun Z9 => setRow (setRow X n w_129) n (cpyR Z9 (44 + 6 * 3) (X.1 n2) (44 + 6 * 3))) rd_out).trans sr_out)) hW_137
  refine lv_aload_n hx hb dX4_copyFrom_91 rfl (lv_at hl_132 1 rfl) ?_
  refine gP_volumes C hW_140 hp (hwc hwX4) (mc qw_163) dX4_copyFrom_92 ?_
  refine lv_iload_n hx hb dX4_copyFrom_95 rfl (lv_at hl_132 0 rfl) ?_
  refine lv_aload_n hx hb dX4_copyFrom_96 rfl (lv_at hl_132 2 rfl) ?_
  refine gP_volumes C hW_140 hp2 (hwc hwX4) (mc qw_163) dX4_copyFrom_97 ?_
  refine lv_iload_n hx hb dX4_copyFrom_100 rfl (lv_at hl_132 0 rfl) ?_
  refine g_volsld C hW_140 hp2 3 (by decide) (vlit (by decide)) dX4_copyFrom_101 ?_
  refine g_top (y := X.1 n2 (48 + 6 * 3)) (congrFun (rd_in hne.symm rfl) _) ?_
  refine g_volsst C hW_140 hS_138 hp 3 (by decide) (vlit (by decide)) dX4_copyFrom_102 (fun H_141 locs_142 hW_143 hS_144 => ?_)
  obtain ⟨w_145, ew_145⟩ : ∃ Z9, Z9 = upd w_139 (48 + 6 * 3) (X.1 n2 (48 + 6 * 3)) := ⟨_, rfl⟩
  have hW_146 : Wd G (setRow X n w_145) H_141 := Wd.cast (by rw [ew_145]; exact st_out) hW_143
  refine lv_iinc (v := 4) (lv' := [(2, .int 4), (0, .ref (ad G (65 * n + 0))), (1, .ref (ad G (65 * n2 + 0)))]) hx hb dX4_copyFrom_103 hl_132 (k := 0) rfl (by decide) (by decide) rfl (fun ls_147 hl_148 => ?_)
  refine lv_goto (tgt := 70) hx hb dX4_copyFrom_106 (by decide) ?_
  refine lv_iload_n hx hb dX4_copyFrom_70 rfl (lv_at hl_148 0 rfl) ?_
  refine lv_bipush (v := 6) hx hb dX4_copyFrom_71 (by decide) ?_
  refine lv_icmp_ge (tgt := 109) hx hb dX4_copyFrom_73 (by decide) (fun h9 => absurd h9 (by decide)) (fun _ => ?_)
  refine lv_aload_n hx hb dX4_copyFrom_76 rfl (lv_at hl_148 1 rfl) ?_
  refine gP_moulds C hW_146 hp (hwc hwX4) (mc qw_161) dX4_copyFrom_77 ?_
  refine lv_iload_n hx hb dX4_copyFrom_80 rfl (lv_at hl_148 0 rfl) ?_
  refine g_mou C hW_146 hp 4 (by decide) (vlit (by decide)) dX4_copyFrom_81 ?_
  refine lv_aload_n hx hb dX4_copyFrom_82 rfl (lv_at hl_148 2 rfl) ?_
  refine gP_moulds C hW_146 hp2 (hwc hwX4) (mc qw_161) dX4_copyFrom_83 ?_
  refine lv_iload_n hx hb dX4_copyFrom_86 rfl (lv_at hl_148 0 rfl) ?_
  refine g_mou C hW_146 hp2 4 (by decide) (vlit (by decide)) dX4_copyFrom_87 ?_
  refine g_callv (va_runV (As := [.ref (ad G (65 * n2 + (29 + 2 * 4)))]) (rest := []) C.1 (cX3_copyFrom_ok l G (setRow X n w_145) (65 * n + (29 + 2 * 4)) (65 * n + (30 + 2 * 4)) n (44 + 6 * 4) (mix_mou (G := G) hp (by decide)) (65 * n2 + (29 + 2 * 4)) (65 * n2 + (30 + 2 * 4)) n2 (44 + 6 * 4) (mix_mou (G := G) hp2 (by decide))) (cwV 1 C.1.2.2.2.2 (gV qw_785 qw_781 qw_782 qw_73 qw_783) rfl rfl rfl (by decide +kernel) ⟨Nat.le_of_ble_eq_true rfl, Nat.le_of_ble_eq_true rfl⟩) (g_rMix C hW_146 hS_144 (mix_mou (G := G) hp (by decide)) [.ref (ad G (65 * n2 + (29 + 2 * 4)))]) rfl rfl hl_148.1 rfl (lv_room (Nat.le_of_ble_eq_true rfl)) dX4_copyFrom_88 ⟨Nat.zero_le _, Nat.zero_le _⟩) hS_144 (fun Y_150 H_151 locs_152 hW_153 hS_154 h_149 => ?_)
  rw [show (setRow X n w_145).1 n2 = X.1 n2 from (rd_in hne.symm rfl)] at h_149
  obtain ⟨w_155, ew_155⟩ : ∃ Z9, Z9 = cpyR w_145 (44 + 6 * 4) (X.1 n2) (44 + 6 * 4) := ⟨_, rfl⟩
  have hW_156 : Wd G (setRow X n w_155) H_151 := Wd.cast (by rw [h_149, ew_155]; exact ((congrArg (fun Z9 => setRow (setRow X n w_145) n (cpyR Z9 (44 + 6 * 4) (X.1 n2) (44 + 6 * 4))) rd_out).trans sr_out)) hW_153
  refine lv_aload_n hx hb dX4_copyFrom_91 rfl (lv_at hl_148 1 rfl) ?_
  refine gP_volumes C hW_156 hp (hwc hwX4) (mc qw_163) dX4_copyFrom_92 ?_
  refine lv_iload_n hx hb dX4_copyFrom_95 rfl (lv_at hl_148 0 rfl) ?_
  refine lv_aload_n hx hb dX4_copyFrom_96 rfl (lv_at hl_148 2 rfl) ?_
  refine gP_volumes C hW_156 hp2 (hwc hwX4) (mc qw_163) dX4_copyFrom_97 ?_
  refine lv_iload_n hx hb dX4_copyFrom_100 rfl (lv_at hl_148 0 rfl) ?_
  refine g_volsld C hW_156 hp2 4 (by decide) (vlit (by decide)) dX4_copyFrom_101 ?_
  refine g_top (y := X.1 n2 (48 + 6 * 4)) (congrFun (rd_in hne.symm rfl) _) ?_
  refine g_volsst C hW_156 hS_154 hp 4 (by decide) (vlit (by decide)) dX4_copyFrom_102 (fun H_157 locs_158 hW_159 hS_160 => ?_)
  obtain ⟨w_161, ew_161⟩ : ∃ Z9, Z9 = upd w_155 (48 + 6 * 4) (X.1 n2 (48 + 6 * 4)) := ⟨_, rfl⟩
  have hW_162 : Wd G (setRow X n w_161) H_157 := Wd.cast (by rw [ew_161]; exact st_out) hW_159
  refine lv_iinc (v := 5) (lv' := [(2, .int 5), (0, .ref (ad G (65 * n + 0))), (1, .ref (ad G (65 * n2 + 0)))]) hx hb dX4_copyFrom_103 hl_148 (k := 0) rfl (by decide) (by decide) rfl (fun ls_163 hl_164 => ?_)
  refine lv_goto (tgt := 70) hx hb dX4_copyFrom_106 (by decide) ?_
  refine lv_iload_n hx hb dX4_copyFrom_70 rfl (lv_at hl_164 0 rfl) ?_
  refine lv_bipush (v := 6) hx hb dX4_copyFrom_71 (by decide) ?_
  refine lv_icmp_ge (tgt := 109) hx hb dX4_copyFrom_73 (by decide) (fun h9 => absurd h9 (by decide)) (fun _ => ?_)
  refine lv_aload_n hx hb dX4_copyFrom_76 rfl (lv_at hl_164 1 rfl) ?_
  refine gP_moulds C hW_162 hp (hwc hwX4) (mc qw_161) dX4_copyFrom_77 ?_
  refine lv_iload_n hx hb dX4_copyFrom_80 rfl (lv_at hl_164 0 rfl) ?_
  refine g_mou C hW_162 hp 5 (by decide) (vlit (by decide)) dX4_copyFrom_81 ?_
  refine lv_aload_n hx hb dX4_copyFrom_82 rfl (lv_at hl_164 2 rfl) ?_
  refine gP_moulds C hW_162 hp2 (hwc hwX4) (mc qw_161) dX4_copyFrom_83 ?_
  refine lv_iload_n hx hb dX4_copyFrom_86 rfl (lv_at hl_164 0 rfl) ?_
  refine g_mou C hW_162 hp2 5 (by decide) (vlit (by decide)) dX4_copyFrom_87 ?_
  refine g_callv (va_runV (As := [.ref (ad G (65 * n2 + (29 + 2 * 5)))]) (rest := []) C.1 (cX3_copyFrom_ok l G (setRow X n w_161) (65 * n + (29 + 2 * 5)) (65 * n + (30 + 2 * 5)) n (44 + 6 * 5) (mix_mou (G := G) hp (by decide)) (65 * n2 + (29 + 2 * 5)) (65 * n2 + (30 + 2 * 5)) n2 (44 + 6 * 5) (mix_mou (G := G) hp2 (by decide))) (cwV 1 C.1.2.2.2.2 (gV qw_785 qw_781 qw_782 qw_73 qw_783) rfl rfl rfl (by decide +kernel) ⟨Nat.le_of_ble_eq_true rfl, Nat.le_of_ble_eq_true rfl⟩) (g_rMix C hW_162 hS_160 (mix_mou (G := G) hp (by decide)) [.ref (ad G (65 * n2 + (29 + 2 * 5)))]) rfl rfl hl_164.1 rfl (lv_room (Nat.le_of_ble_eq_true rfl)) dX4_copyFrom_88 ⟨Nat.zero_le _, Nat.zero_le _⟩) hS_160 (fun Y_166 H_167 locs_168 hW_169 hS_170 h_165 => ?_)
  rw [show (setRow X n w_161).1 n2 = X.1 n2 from (rd_in hne.symm rfl)] at h_165
  obtain ⟨w_171, ew_171⟩ : ∃ Z9, Z9 = cpyR w_161 (44 + 6 * 5) (X.1 n2) (44 + 6 * 5) := ⟨_, rfl⟩
  have hW_172 : Wd G (setRow X n w_171) H_167 := Wd.cast (by rw [h_165, ew_171]; exact ((congrArg (fun Z9 => setRow (setRow X n w_161) n (cpyR Z9 (44 + 6 * 5) (X.1 n2) (44 + 6 * 5))) rd_out).trans sr_out)) hW_169
  refine lv_aload_n hx hb dX4_copyFrom_91 rfl (lv_at hl_164 1 rfl) ?_
  refine gP_volumes C hW_172 hp (hwc hwX4) (mc qw_163) dX4_copyFrom_92 ?_
  refine lv_iload_n hx hb dX4_copyFrom_95 rfl (lv_at hl_164 0 rfl) ?_
  refine lv_aload_n hx hb dX4_copyFrom_96 rfl (lv_at hl_164 2 rfl) ?_
  refine gP_volumes C hW_172 hp2 (hwc hwX4) (mc qw_163) dX4_copyFrom_97 ?_
  refine lv_iload_n hx hb dX4_copyFrom_100 rfl (lv_at hl_164 0 rfl) ?_
  refine g_volsld C hW_172 hp2 5 (by decide) (vlit (by decide)) dX4_copyFrom_101 ?_
  refine g_top (y := X.1 n2 (48 + 6 * 5)) (congrFun (rd_in hne.symm rfl) _) ?_
  refine g_volsst C hW_172 hS_170 hp 5 (by decide) (vlit (by decide)) dX4_copyFrom_102 (fun H_173 locs_174 hW_175 hS_176 => ?_)
  obtain ⟨w_177, ew_177⟩ : ∃ Z9, Z9 = upd w_171 (48 + 6 * 5) (X.1 n2 (48 + 6 * 5)) := ⟨_, rfl⟩
  have hW_178 : Wd G (setRow X n w_177) H_173 := Wd.cast (by rw [ew_177]; exact st_out) hW_175
  refine lv_iinc (v := 6) (lv' := [(2, .int 6), (0, .ref (ad G (65 * n + 0))), (1, .ref (ad G (65 * n2 + 0)))]) hx hb dX4_copyFrom_103 hl_164 (k := 0) rfl (by decide) (by decide) rfl (fun ls_179 hl_180 => ?_)
  refine lv_goto (tgt := 70) hx hb dX4_copyFrom_106 (by decide) ?_
  refine lv_iload_n hx hb dX4_copyFrom_70 rfl (lv_at hl_180 0 rfl) ?_
  refine lv_bipush (v := 6) hx hb dX4_copyFrom_71 (by decide) ?_
  refine lv_icmp_ge (tgt := 109) hx hb dX4_copyFrom_73 (by decide) (fun _ => ?_) (fun h9 => absurd h9 (by decide))
  refine lv_aload_n hx hb dX4_copyFrom_109 rfl (lv_at hl_180 1 rfl) ?_
  refine lv_aload_n hx hb dX4_copyFrom_110 rfl (lv_at hl_180 2 rfl) ?_
  refine gP_mouldCount C hW_178 hp2 (hwc hwX4) (mc qw_165) dX4_copyFrom_111 ?_
  refine g_top (y := X.1 n2 (42)) (congrFun (rd_in hne.symm rfl) _) ?_
  refine gP_mouldCountP C hW_178 hS_176 hp (hwc hwX4) (mc qw_165) dX4_copyFrom_114 (fun H_181 locs_182 hW_183 hS_184 => ?_)
  obtain ⟨w_185, ew_185⟩ : ∃ Z9, Z9 = upd w_177 (42) (X.1 n2 (42)) := ⟨_, rfl⟩
  have hW_186 : Wd G (setRow X n w_185) H_181 := Wd.cast (by rw [ew_185]; exact st_out) hW_183
  refine lv_iconst (v := 0) hx hb dX4_copyFrom_117 (by decide) ?_
  refine lv_istore_n (lv' := [(2, .int 0), (0, .ref (ad G (65 * n + 0))), (1, .ref (ad G (65 * n2 + 0)))]) hx hb dX4_copyFrom_118 rfl hl_180 (by decide) rfl (fun ls_187 hl_188 => ?_)
  refine lv_iload_n hx hb dX4_copyFrom_119 rfl (lv_at hl_188 0 rfl) ?_
  refine lv_bipush (v := 12) hx hb dX4_copyFrom_120 (by decide) ?_
  refine lv_icmp_ge (tgt := 146) hx hb dX4_copyFrom_122 (by decide) (fun h9 => absurd h9 (by decide)) (fun _ => ?_)
  refine lv_aload_n hx hb dX4_copyFrom_125 rfl (lv_at hl_188 1 rfl) ?_
  refine gP_ingots C hW_186 hp (hwc hwX4) (mc qw_167) dX4_copyFrom_126 ?_
  refine lv_iload_n hx hb dX4_copyFrom_129 rfl (lv_at hl_188 0 rfl) ?_
  refine g_ing C hW_186 hp 0 (by decide) (vlit (by decide)) dX4_copyFrom_130 ?_
  refine lv_aload_n hx hb dX4_copyFrom_131 rfl (lv_at hl_188 2 rfl) ?_
  refine gP_ingots C hW_186 hp2 (hwc hwX4) (mc qw_167) dX4_copyFrom_132 ?_
  refine lv_iload_n hx hb dX4_copyFrom_135 rfl (lv_at hl_188 0 rfl) ?_
  refine g_ing C hW_186 hp2 0 (by decide) (vlit (by decide)) dX4_copyFrom_136 ?_
  refine g_callv (va_runV (As := [.ref (ad G (65 * n2 + (41 + 2 * 0)))]) (rest := []) C.1 (cX3_copyFrom_ok l G (setRow X n w_185) (65 * n + (41 + 2 * 0)) (65 * n + (42 + 2 * 0)) n (80 + 4 * 0) (mix_ing (G := G) hp (by decide)) (65 * n2 + (41 + 2 * 0)) (65 * n2 + (42 + 2 * 0)) n2 (80 + 4 * 0) (mix_ing (G := G) hp2 (by decide))) (cwV 1 C.1.2.2.2.2 (gV qw_785 qw_781 qw_782 qw_73 qw_783) rfl rfl rfl (by decide +kernel) ⟨Nat.le_of_ble_eq_true rfl, Nat.le_of_ble_eq_true rfl⟩) (g_rMix C hW_186 hS_184 (mix_ing (G := G) hp (by decide)) [.ref (ad G (65 * n2 + (41 + 2 * 0)))]) rfl rfl hl_188.1 rfl (lv_room (Nat.le_of_ble_eq_true rfl)) dX4_copyFrom_137 ⟨Nat.zero_le _, Nat.zero_le _⟩) hS_184 (fun Y_190 H_191 locs_192 hW_193 hS_194 h_189 => ?_)
  rw [show (setRow X n w_185).1 n2 = X.1 n2 from (rd_in hne.symm rfl)] at h_189
  obtain ⟨w_195, ew_195⟩ : ∃ Z9, Z9 = cpyR w_185 (80 + 4 * 0) (X.1 n2) (80 + 4 * 0) := ⟨_, rfl⟩
  have hW_196 : Wd G (setRow X n w_195) H_191 := Wd.cast (by rw [h_189, ew_195]; exact ((congrArg (fun Z9 => setRow (setRow X n w_185) n (cpyR Z9 (80 + 4 * 0) (X.1 n2) (80 + 4 * 0))) rd_out).trans sr_out)) hW_193
  refine lv_iinc (v := 1) (lv' := [(2, .int 1), (0, .ref (ad G (65 * n + 0))), (1, .ref (ad G (65 * n2 + 0)))]) hx hb dX4_copyFrom_140 hl_188 (k := 0) rfl (by decide) (by decide) rfl (fun ls_197 hl_198 => ?_)
  refine lv_goto (tgt := 119) hx hb dX4_copyFrom_143 (by decide) ?_
  refine lv_iload_n hx hb dX4_copyFrom_119 rfl (lv_at hl_198 0 rfl) ?_
  refine lv_bipush (v := 12) hx hb dX4_copyFrom_120 (by decide) ?_
  refine lv_icmp_ge (tgt := 146) hx hb dX4_copyFrom_122 (by decide) (fun h9 => absurd h9 (by decide)) (fun _ => ?_)
  refine lv_aload_n hx hb dX4_copyFrom_125 rfl (lv_at hl_198 1 rfl) ?_
  refine gP_ingots C hW_196 hp (hwc hwX4) (mc qw_167) dX4_copyFrom_126 ?_
  refine lv_iload_n hx hb dX4_copyFrom_129 rfl (lv_at hl_198 0 rfl) ?_
  refine g_ing C hW_196 hp 1 (by decide) (vlit (by decide)) dX4_copyFrom_130 ?_
  refine lv_aload_n hx hb dX4_copyFrom_131 rfl (lv_at hl_198 2 rfl) ?_
  refine gP_ingots C hW_196 hp2 (hwc hwX4) (mc qw_167) dX4_copyFrom_132 ?_
  refine lv_iload_n hx hb dX4_copyFrom_135 rfl (lv_at hl_198 0 rfl) ?_
  refine g_ing C hW_196 hp2 1 (by decide) (vlit (by decide)) dX4_copyFrom_136 ?_
  refine g_callv (va_runV (As := [.ref (ad G (65 * n2 + (41 + 2 * 1)))]) (rest := []) C.1 (cX3_copyFrom_ok l G (setRow X n w_195) (65 * n + (41 + 2 * 1)) (65 * n + (42 + 2 * 1)) n (80 + 4 * 1) (mix_ing (G := G) hp (by decide)) (65 * n2 + (41 + 2 * 1)) (65 * n2 + (42 + 2 * 1)) n2 (80 + 4 * 1) (mix_ing (G := G) hp2 (by decide))) (cwV 1 C.1.2.2.2.2 (gV qw_785 qw_781 qw_782 qw_73 qw_783) rfl rfl rfl (by decide +kernel) ⟨Nat.le_of_ble_eq_true rfl, Nat.le_of_ble_eq_true rfl⟩) (g_rMix C hW_196 hS_194 (mix_ing (G := G) hp (by decide)) [.ref (ad G (65 * n2 + (41 + 2 * 1)))]) rfl rfl hl_198.1 rfl (lv_room (Nat.le_of_ble_eq_true rfl)) dX4_copyFrom_137 ⟨Nat.zero_le _, Nat.zero_le _⟩) hS_194 (fun Y_200 H_201 locs_202 hW_203 hS_204 h_199 => ?_)
  rw [show (setRow X n w_195).1 n2 = X.1 n2 from (rd_in hne.symm rfl)] at h_199
  obtain ⟨w_205, ew_205⟩ : ∃ Z9, Z9 = cpyR w_195 (80 + 4 * 1) (X.1 n2) (80 + 4 * 1) := ⟨_, rfl⟩
  have hW_206 : Wd G (setRow X n w_205) H_201 := Wd.cast (by rw [h_199, ew_205]; exact ((congrArg (fun Z9 => setRow (setRow X n w_195) n (cpyR Z9 (80 + 4 * 1) (X.1 n2) (80 + 4 * 1))) rd_out).trans sr_out)) hW_203
  refine lv_iinc (v := 2) (lv' := [(2, .int 2), (0, .ref (ad G (65 * n + 0))), (1, .ref (ad G (65 * n2 + 0)))]) hx hb dX4_copyFrom_140 hl_198 (k := 0) rfl (by decide) (by decide) rfl (fun ls_207 hl_208 => ?_)
  refine lv_goto (tgt := 119) hx hb dX4_copyFrom_143 (by decide) ?_
  refine lv_iload_n hx hb dX4_copyFrom_119 rfl (lv_at hl_208 0 rfl) ?_
  refine lv_bipush (v := 12) hx hb dX4_copyFrom_120 (by decide) ?_
  refine lv_icmp_ge (tgt := 146) hx hb dX4_copyFrom_122 (by decide) (fun h9 => absurd h9 (by decide)) (fun _ => ?_)
  refine lv_aload_n hx hb dX4_copyFrom_125 rfl (lv_at hl_208 1 rfl) ?_
  refine gP_ingots C hW_206 hp (hwc hwX4) (mc qw_167) dX4_copyFrom_126 ?_
  refine lv_iload_n hx hb dX4_copyFrom_129 rfl (lv_at hl_208 0 rfl) ?_
  refine g_ing C hW_206 hp 2 (by decide) (vlit (by decide)) dX4_copyFrom_130 ?_
  refine lv_aload_n hx hb dX4_copyFrom_131 rfl (lv_at hl_208 2 rfl) ?_
  refine gP_ingots C hW_206 hp2 (hwc hwX4) (mc qw_167) dX4_copyFrom_132 ?_
  refine lv_iload_n hx hb dX4_copyFrom_135 rfl (lv_at hl_208 0 rfl) ?_
  refine g_ing C hW_206 hp2 2 (by decide) (vlit (by decide)) dX4_copyFrom_136 ?_
  refine g_callv (va_runV (As := [.ref (ad G (65 * n2 + (41 + 2 * 2)))]) (rest := []) C.1 (cX3_copyFrom_ok l G (setRow X n w_205) (65 * n + (41 + 2 * 2)) (65 * n + (42 + 2 * 2)) n (80 + 4 * 2) (mix_ing (G := G) hp (by decide)) (65 * n2 + (41 + 2 * 2)) (65 * n2 + (42 + 2 * 2)) n2 (80 + 4 * 2) (mix_ing (G := G) hp2 (by decide))) (cwV 1 C.1.2.2.2.2 (gV qw_785 qw_781 qw_782 qw_73 qw_783) rfl rfl rfl (by decide +kernel) ⟨Nat.le_of_ble_eq_true rfl, Nat.le_of_ble_eq_true rfl⟩) (g_rMix C hW_206 hS_204 (mix_ing (G := G) hp (by decide)) [.ref (ad G (65 * n2 + (41 + 2 * 2)))]) rfl rfl hl_208.1 rfl (lv_room (Nat.le_of_ble_eq_true rfl)) dX4_copyFrom_137 ⟨Nat.zero_le _, Nat.zero_le _⟩) hS_204 (fun Y_210 H_211 locs_212 hW_213 hS_214 h_209 => ?_)
  rw [show (setRow X n w_205).1 n2 = X.1 n2 from (rd_in hne.symm rfl)] at h_209
  obtain ⟨w_215, ew_215⟩ : ∃ Z9, Z9 = cpyR w_205 (80 + 4 * 2) (X.1 n2) (80 + 4 * 2) := ⟨_, rfl⟩
  have hW_216 : Wd G (setRow X n w_215) H_211 := Wd.cast (by rw [h_209, ew_215]; exact ((congrArg (fun Z9 => setRow (setRow X n w_205) n (cpyR Z9 (80 + 4 * 2) (X.1 n2) (80 + 4 * 2))) rd_out).trans sr_out)) hW_213
  refine lv_iinc (v := 3) (lv' := [(2, .int 3), (0, .ref (ad G (65 * n + 0))), (1, .ref (ad G (65 * n2 + 0)))]) hx hb dX4_copyFrom_140 hl_208 (k := 0) rfl (by decide) (by decide) rfl (fun ls_217 hl_218 => ?_)
  refine lv_goto (tgt := 119) hx hb dX4_copyFrom_143 (by decide) ?_
  refine lv_iload_n hx hb dX4_copyFrom_119 rfl (lv_at hl_218 0 rfl) ?_
  refine lv_bipush (v := 12) hx hb dX4_copyFrom_120 (by decide) ?_
  refine lv_icmp_ge (tgt := 146) hx hb dX4_copyFrom_122 (by decide) (fun h9 => absurd h9 (by decide)) (fun _ => ?_)
  refine lv_aload_n hx hb dX4_copyFrom_125 rfl (lv_at hl_218 1 rfl) ?_
  refine gP_ingots C hW_216 hp (hwc hwX4) (mc qw_167) dX4_copyFrom_126 ?_
  refine lv_iload_n hx hb dX4_copyFrom_129 rfl (lv_at hl_218 0 rfl) ?_
  refine g_ing C hW_216 hp 3 (by decide) (vlit (by decide)) dX4_copyFrom_130 ?_
  refine lv_aload_n hx hb dX4_copyFrom_131 rfl (lv_at hl_218 2 rfl) ?_
  refine gP_ingots C hW_216 hp2 (hwc hwX4) (mc qw_167) dX4_copyFrom_132 ?_
  refine lv_iload_n hx hb dX4_copyFrom_135 rfl (lv_at hl_218 0 rfl) ?_
  refine g_ing C hW_216 hp2 3 (by decide) (vlit (by decide)) dX4_copyFrom_136 ?_
  refine g_callv (va_runV (As := [.ref (ad G (65 * n2 + (41 + 2 * 3)))]) (rest := []) C.1 (cX3_copyFrom_ok l G (setRow X n w_215) (65 * n + (41 + 2 * 3)) (65 * n + (42 + 2 * 3)) n (80 + 4 * 3) (mix_ing (G := G) hp (by decide)) (65 * n2 + (41 + 2 * 3)) (65 * n2 + (42 + 2 * 3)) n2 (80 + 4 * 3) (mix_ing (G := G) hp2 (by decide))) (cwV 1 C.1.2.2.2.2 (gV qw_785 qw_781 qw_782 qw_73 qw_783) rfl rfl rfl (by decide +kernel) ⟨Nat.le_of_ble_eq_true rfl, Nat.le_of_ble_eq_true rfl⟩) (g_rMix C hW_216 hS_214 (mix_ing (G := G) hp (by decide)) [.ref (ad G (65 * n2 + (41 + 2 * 3)))]) rfl rfl hl_218.1 rfl (lv_room (Nat.le_of_ble_eq_true rfl)) dX4_copyFrom_137 ⟨Nat.zero_le _, Nat.zero_le _⟩) hS_214 (fun Y_220 H_221 locs_222 hW_223 hS_224 h_219 => ?_)
  rw [show (setRow X n w_215).1 n2 = X.1 n2 from (rd_in hne.symm rfl)] at h_219
  obtain ⟨w_225, ew_225⟩ : ∃ Z9, Z9 = cpyR w_215 (80 + 4 * 3) (X.1 n2) (80 + 4 * 3) := ⟨_, rfl⟩
  have hW_226 : Wd G (setRow X n w_225) H_221 := Wd.cast (by rw [h_219, ew_225]; exact ((congrArg (fun Z9 => setRow (setRow X n w_215) n (cpyR Z9 (80 + 4 * 3) (X.1 n2) (80 + 4 * 3))) rd_out).trans sr_out)) hW_223
  refine lv_iinc (v := 4) (lv' := [(2, .int 4), (0, .ref (ad G (65 * n + 0))), (1, .ref (ad G (65 * n2 + 0)))]) hx hb dX4_copyFrom_140 hl_218 (k := 0) rfl (by decide) (by decide) rfl (fun ls_227 hl_228 => ?_)
  refine lv_goto (tgt := 119) hx hb dX4_copyFrom_143 (by decide) ?_
  refine lv_iload_n hx hb dX4_copyFrom_119 rfl (lv_at hl_228 0 rfl) ?_
  refine lv_bipush (v := 12) hx hb dX4_copyFrom_120 (by decide) ?_
  refine lv_icmp_ge (tgt := 146) hx hb dX4_copyFrom_122 (by decide) (fun h9 => absurd h9 (by decide)) (fun _ => ?_)
  refine lv_aload_n hx hb dX4_copyFrom_125 rfl (lv_at hl_228 1 rfl) ?_
  refine gP_ingots C hW_226 hp (hwc hwX4) (mc qw_167) dX4_copyFrom_126 ?_
  refine lv_iload_n hx hb dX4_copyFrom_129 rfl (lv_at hl_228 0 rfl) ?_
  refine g_ing C hW_226 hp 4 (by decide) (vlit (by decide)) dX4_copyFrom_130 ?_
  refine lv_aload_n hx hb dX4_copyFrom_131 rfl (lv_at hl_228 2 rfl) ?_
  refine gP_ingots C hW_226 hp2 (hwc hwX4) (mc qw_167) dX4_copyFrom_132 ?_
  refine lv_iload_n hx hb dX4_copyFrom_135 rfl (lv_at hl_228 0 rfl) ?_
  refine g_ing C hW_226 hp2 4 (by decide) (vlit (by decide)) dX4_copyFrom_136 ?_
  refine g_callv (va_runV (As := [.ref (ad G (65 * n2 + (41 + 2 * 4)))]) (rest := []) C.1 (cX3_copyFrom_ok l G (setRow X n w_225) (65 * n + (41 + 2 * 4)) (65 * n + (42 + 2 * 4)) n (80 + 4 * 4) (mix_ing (G := G) hp (by decide)) (65 * n2 + (41 + 2 * 4)) (65 * n2 + (42 + 2 * 4)) n2 (80 + 4 * 4) (mix_ing (G := G) hp2 (by decide))) (cwV 1 C.1.2.2.2.2 (gV qw_785 qw_781 qw_782 qw_73 qw_783) rfl rfl rfl (by decide +kernel) ⟨Nat.le_of_ble_eq_true rfl, Nat.le_of_ble_eq_true rfl⟩) (g_rMix C hW_226 hS_224 (mix_ing (G := G) hp (by decide)) [.ref (ad G (65 * n2 + (41 + 2 * 4)))]) rfl rfl hl_228.1 rfl (lv_room (Nat.le_of_ble_eq_true rfl)) dX4_copyFrom_137 ⟨Nat.zero_le _, Nat.zero_le _⟩) hS_224 (fun Y_230 H_231 locs_232 hW_233 hS_234 h_229 => ?_)
  rw [show (setRow X n w_225).1 n2 = X.1 n2 from (rd_in hne.symm rfl)] at h_229
  obtain ⟨w_235, ew_235⟩ : ∃ Z9, Z9 = cpyR w_225 (80 + 4 * 4) (X.1 n2) (80 + 4 * 4) := ⟨_, rfl⟩
  have hW_236 : Wd G (setRow X n w_235) H_231 := Wd.cast (by rw [h_229, ew_235]; exact ((congrArg (fun Z9 => setRow (setRow X n w_225) n (cpyR Z9 (80 + 4 * 4) (X.1 n2) (80 + 4 * 4))) rd_out).trans sr_out)) hW_233
  refine lv_iinc (v := 5) (lv' := [(2, .int 5), (0, .ref (ad G (65 * n + 0))), (1, .ref (ad G (65 * n2 + 0)))]) hx hb dX4_copyFrom_140 hl_228 (k := 0) rfl (by decide) (by decide) rfl (fun ls_237 hl_238 => ?_)
  refine lv_goto (tgt := 119) hx hb dX4_copyFrom_143 (by decide) ?_
  refine lv_iload_n hx hb dX4_copyFrom_119 rfl (lv_at hl_238 0 rfl) ?_
  refine lv_bipush (v := 12) hx hb dX4_copyFrom_120 (by decide) ?_
  refine lv_icmp_ge (tgt := 146) hx hb dX4_copyFrom_122 (by decide) (fun h9 => absurd h9 (by decide)) (fun _ => ?_)
  refine lv_aload_n hx hb dX4_copyFrom_125 rfl (lv_at hl_238 1 rfl) ?_
  refine gP_ingots C hW_236 hp (hwc hwX4) (mc qw_167) dX4_copyFrom_126 ?_
  refine lv_iload_n hx hb dX4_copyFrom_129 rfl (lv_at hl_238 0 rfl) ?_
  refine g_ing C hW_236 hp 5 (by decide) (vlit (by decide)) dX4_copyFrom_130 ?_
  refine lv_aload_n hx hb dX4_copyFrom_131 rfl (lv_at hl_238 2 rfl) ?_
  refine gP_ingots C hW_236 hp2 (hwc hwX4) (mc qw_167) dX4_copyFrom_132 ?_
  refine lv_iload_n hx hb dX4_copyFrom_135 rfl (lv_at hl_238 0 rfl) ?_
  refine g_ing C hW_236 hp2 5 (by decide) (vlit (by decide)) dX4_copyFrom_136 ?_
  refine g_callv (va_runV (As := [.ref (ad G (65 * n2 + (41 + 2 * 5)))]) (rest := []) C.1 (cX3_copyFrom_ok l G (setRow X n w_235) (65 * n + (41 + 2 * 5)) (65 * n + (42 + 2 * 5)) n (80 + 4 * 5) (mix_ing (G := G) hp (by decide)) (65 * n2 + (41 + 2 * 5)) (65 * n2 + (42 + 2 * 5)) n2 (80 + 4 * 5) (mix_ing (G := G) hp2 (by decide))) (cwV 1 C.1.2.2.2.2 (gV qw_785 qw_781 qw_782 qw_73 qw_783) rfl rfl rfl (by decide +kernel) ⟨Nat.le_of_ble_eq_true rfl, Nat.le_of_ble_eq_true rfl⟩) (g_rMix C hW_236 hS_234 (mix_ing (G := G) hp (by decide)) [.ref (ad G (65 * n2 + (41 + 2 * 5)))]) rfl rfl hl_238.1 rfl (lv_room (Nat.le_of_ble_eq_true rfl)) dX4_copyFrom_137 ⟨Nat.zero_le _, Nat.zero_le _⟩) hS_234 (fun Y_240 H_241 locs_242 hW_243 hS_244 h_239 => ?_)
  rw [show (setRow X n w_235).1 n2 = X.1 n2 from (rd_in hne.symm rfl)] at h_239
  obtain ⟨w_245, ew_245⟩ : ∃ Z9, Z9 = cpyR w_235 (80 + 4 * 5) (X.1 n2) (80 + 4 * 5) := ⟨_, rfl⟩
  have hW_246 : Wd G (setRow X n w_245) H_241 := Wd.cast (by rw [h_239, ew_245]; exact ((congrArg (fun Z9 => setRow (setRow X n w_235) n (cpyR Z9 (80 + 4 * 5) (X.1 n2) (80 + 4 * 5))) rd_out).trans sr_out)) hW_243
  refine lv_iinc (v := 6) (lv' := [(2, .int 6), (0, .ref (ad G (65 * n + 0))), (1, .ref (ad G (65 * n2 + 0)))]) hx hb dX4_copyFrom_140 hl_238 (k := 0) rfl (by decide) (by decide) rfl (fun ls_247 hl_248 => ?_)
  refine lv_goto (tgt := 119) hx hb dX4_copyFrom_143 (by decide) ?_
  refine lv_iload_n hx hb dX4_copyFrom_119 rfl (lv_at hl_248 0 rfl) ?_
  refine lv_bipush (v := 12) hx hb dX4_copyFrom_120 (by decide) ?_
  refine lv_icmp_ge (tgt := 146) hx hb dX4_copyFrom_122 (by decide) (fun h9 => absurd h9 (by decide)) (fun _ => ?_)
  refine lv_aload_n hx hb dX4_copyFrom_125 rfl (lv_at hl_248 1 rfl) ?_
  refine gP_ingots C hW_246 hp (hwc hwX4) (mc qw_167) dX4_copyFrom_126 ?_
  refine lv_iload_n hx hb dX4_copyFrom_129 rfl (lv_at hl_248 0 rfl) ?_
  refine g_ing C hW_246 hp 6 (by decide) (vlit (by decide)) dX4_copyFrom_130 ?_
  refine lv_aload_n hx hb dX4_copyFrom_131 rfl (lv_at hl_248 2 rfl) ?_
  refine gP_ingots C hW_246 hp2 (hwc hwX4) (mc qw_167) dX4_copyFrom_132 ?_
  refine lv_iload_n hx hb dX4_copyFrom_135 rfl (lv_at hl_248 0 rfl) ?_
  refine g_ing C hW_246 hp2 6 (by decide) (vlit (by decide)) dX4_copyFrom_136 ?_
  refine g_callv (va_runV (As := [.ref (ad G (65 * n2 + (41 + 2 * 6)))]) (rest := []) C.1 (cX3_copyFrom_ok l G (setRow X n w_245) (65 * n + (41 + 2 * 6)) (65 * n + (42 + 2 * 6)) n (80 + 4 * 6) (mix_ing (G := G) hp (by decide)) (65 * n2 + (41 + 2 * 6)) (65 * n2 + (42 + 2 * 6)) n2 (80 + 4 * 6) (mix_ing (G := G) hp2 (by decide))) (cwV 1 C.1.2.2.2.2 (gV qw_785 qw_781 qw_782 qw_73 qw_783) rfl rfl rfl (by decide +kernel) ⟨Nat.le_of_ble_eq_true rfl, Nat.le_of_ble_eq_true rfl⟩) (g_rMix C hW_246 hS_244 (mix_ing (G := G) hp (by decide)) [.ref (ad G (65 * n2 + (41 + 2 * 6)))]) rfl rfl hl_248.1 rfl (lv_room (Nat.le_of_ble_eq_true rfl)) dX4_copyFrom_137 ⟨Nat.zero_le _, Nat.zero_le _⟩) hS_244 (fun Y_250 H_251 locs_252 hW_253 hS_254 h_249 => ?_)
  rw [show (setRow X n w_245).1 n2 = X.1 n2 from (rd_in hne.symm rfl)] at h_249
  obtain ⟨w_255, ew_255⟩ : ∃ Z9, Z9 = cpyR w_245 (80 + 4 * 6) (X.1 n2) (80 + 4 * 6) := ⟨_, rfl⟩
  have hW_256 : Wd G (setRow X n w_255) H_251 := Wd.cast (by rw [h_249, ew_255]; exact ((congrArg (fun Z9 => setRow (setRow X n w_245) n (cpyR Z9 (80 + 4 * 6) (X.1 n2) (80 + 4 * 6))) rd_out).trans sr_out)) hW_253
  refine lv_iinc (v := 7) (lv' := [(2, .int 7), (0, .ref (ad G (65 * n + 0))), (1, .ref (ad G (65 * n2 + 0)))]) hx hb dX4_copyFrom_140 hl_248 (k := 0) rfl (by decide) (by decide) rfl (fun ls_257 hl_258 => ?_)
  refine lv_goto (tgt := 119) hx hb dX4_copyFrom_143 (by decide) ?_
  refine lv_iload_n hx hb dX4_copyFrom_119 rfl (lv_at hl_258 0 rfl) ?_
  refine lv_bipush (v := 12) hx hb dX4_copyFrom_120 (by decide) ?_
  refine lv_icmp_ge (tgt := 146) hx hb dX4_copyFrom_122 (by decide) (fun h9 => absurd h9 (by decide)) (fun _ => ?_)
  refine lv_aload_n hx hb dX4_copyFrom_125 rfl (lv_at hl_258 1 rfl) ?_
  refine gP_ingots C hW_256 hp (hwc hwX4) (mc qw_167) dX4_copyFrom_126 ?_
  refine lv_iload_n hx hb dX4_copyFrom_129 rfl (lv_at hl_258 0 rfl) ?_
  refine g_ing C hW_256 hp 7 (by decide) (vlit (by decide)) dX4_copyFrom_130 ?_
  refine lv_aload_n hx hb dX4_copyFrom_131 rfl (lv_at hl_258 2 rfl) ?_
  refine gP_ingots C hW_256 hp2 (hwc hwX4) (mc qw_167) dX4_copyFrom_132 ?_
  refine lv_iload_n hx hb dX4_copyFrom_135 rfl (lv_at hl_258 0 rfl) ?_
  refine g_ing C hW_256 hp2 7 (by decide) (vlit (by decide)) dX4_copyFrom_136 ?_
  refine g_callv (va_runV (As := [.ref (ad G (65 * n2 + (41 + 2 * 7)))]) (rest := []) C.1 (cX3_copyFrom_ok l G (setRow X n w_255) (65 * n + (41 + 2 * 7)) (65 * n + (42 + 2 * 7)) n (80 + 4 * 7) (mix_ing (G := G) hp (by decide)) (65 * n2 + (41 + 2 * 7)) (65 * n2 + (42 + 2 * 7)) n2 (80 + 4 * 7) (mix_ing (G := G) hp2 (by decide))) (cwV 1 C.1.2.2.2.2 (gV qw_785 qw_781 qw_782 qw_73 qw_783) rfl rfl rfl (by decide +kernel) ⟨Nat.le_of_ble_eq_true rfl, Nat.le_of_ble_eq_true rfl⟩) (g_rMix C hW_256 hS_254 (mix_ing (G := G) hp (by decide)) [.ref (ad G (65 * n2 + (41 + 2 * 7)))]) rfl rfl hl_258.1 rfl (lv_room (Nat.le_of_ble_eq_true rfl)) dX4_copyFrom_137 ⟨Nat.zero_le _, Nat.zero_le _⟩) hS_254 (fun Y_260 H_261 locs_262 hW_263 hS_264 h_259 => ?_)
  rw [show (setRow X n w_255).1 n2 = X.1 n2 from (rd_in hne.symm rfl)] at h_259
  obtain ⟨w_265, ew_265⟩ : ∃ Z9, Z9 = cpyR w_255 (80 + 4 * 7) (X.1 n2) (80 + 4 * 7) := ⟨_, rfl⟩
  have hW_266 : Wd G (setRow X n w_265) H_261 := Wd.cast (by rw [h_259, ew_265]; exact ((congrArg (fun Z9 => setRow (setRow X n w_255) n (cpyR Z9 (80 + 4 * 7) (X.1 n2) (80 + 4 * 7))) rd_out).trans sr_out)) hW_263
  refine lv_iinc (v := 8) (lv' := [(2, .int 8), (0, .ref (ad G (65 * n + 0))), (1, .ref (ad G (65 * n2 + 0)))]) hx hb dX4_copyFrom_140 hl_258 (k := 0) rfl (by decide) (by decide) rfl (fun ls_267 hl_268 => ?_)
  refine lv_goto (tgt := 119) hx hb dX4_copyFrom_143 (by decide) ?_
  refine lv_iload_n hx hb dX4_copyFrom_119 rfl (lv_at hl_268 0 rfl) ?_
  refine lv_bipush (v := 12) hx hb dX4_copyFrom_120 (by decide) ?_
  refine lv_icmp_ge (tgt := 146) hx hb dX4_copyFrom_122 (by decide) (fun h9 => absurd h9 (by decide)) (fun _ => ?_)
  refine lv_aload_n hx hb dX4_copyFrom_125 rfl (lv_at hl_268 1 rfl) ?_
  refine gP_ingots C hW_266 hp (hwc hwX4) (mc qw_167) dX4_copyFrom_126 ?_
  refine lv_iload_n hx hb dX4_copyFrom_129 rfl (lv_at hl_268 0 rfl) ?_
  refine g_ing C hW_266 hp 8 (by decide) (vlit (by decide)) dX4_copyFrom_130 ?_
  refine lv_aload_n hx hb dX4_copyFrom_131 rfl (lv_at hl_268 2 rfl) ?_
  refine gP_ingots C hW_266 hp2 (hwc hwX4) (mc qw_167) dX4_copyFrom_132 ?_
  refine lv_iload_n hx hb dX4_copyFrom_135 rfl (lv_at hl_268 0 rfl) ?_
  refine g_ing C hW_266 hp2 8 (by decide) (vlit (by decide)) dX4_copyFrom_136 ?_
  refine g_callv (va_runV (As := [.ref (ad G (65 * n2 + (41 + 2 * 8)))]) (rest := []) C.1 (cX3_copyFrom_ok l G (setRow X n w_265) (65 * n + (41 + 2 * 8)) (65 * n + (42 + 2 * 8)) n (80 + 4 * 8) (mix_ing (G := G) hp (by decide)) (65 * n2 + (41 + 2 * 8)) (65 * n2 + (42 + 2 * 8)) n2 (80 + 4 * 8) (mix_ing (G := G) hp2 (by decide))) (cwV 1 C.1.2.2.2.2 (gV qw_785 qw_781 qw_782 qw_73 qw_783) rfl rfl rfl (by decide +kernel) ⟨Nat.le_of_ble_eq_true rfl, Nat.le_of_ble_eq_true rfl⟩) (g_rMix C hW_266 hS_264 (mix_ing (G := G) hp (by decide)) [.ref (ad G (65 * n2 + (41 + 2 * 8)))]) rfl rfl hl_268.1 rfl (lv_room (Nat.le_of_ble_eq_true rfl)) dX4_copyFrom_137 ⟨Nat.zero_le _, Nat.zero_le _⟩) hS_264 (fun Y_270 H_271 locs_272 hW_273 hS_274 h_269 => ?_)
  rw [show (setRow X n w_265).1 n2 = X.1 n2 from (rd_in hne.symm rfl)] at h_269
  obtain ⟨w_275, ew_275⟩ : ∃ Z9, Z9 = cpyR w_265 (80 + 4 * 8) (X.1 n2) (80 + 4 * 8) := ⟨_, rfl⟩
  have hW_276 : Wd G (setRow X n w_275) H_271 := Wd.cast (by rw [h_269, ew_275]; exact ((congrArg (fun Z9 => setRow (setRow X n w_265) n (cpyR Z9 (80 + 4 * 8) (X.1 n2) (80 + 4 * 8))) rd_out).trans sr_out)) hW_273
  refine lv_iinc (v := 9) (lv' := [(2, .int 9), (0, .ref (ad G (65 * n + 0))), (1, .ref (ad G (65 * n2 + 0)))]) hx hb dX4_copyFrom_140 hl_268 (k := 0) rfl (by decide) (by decide) rfl (fun ls_277 hl_278 => ?_)
  refine lv_goto (tgt := 119) hx hb dX4_copyFrom_143 (by decide) ?_
  refine lv_iload_n hx hb dX4_copyFrom_119 rfl (lv_at hl_278 0 rfl) ?_
  refine lv_bipush (v := 12) hx hb dX4_copyFrom_120 (by decide) ?_
  refine lv_icmp_ge (tgt := 146) hx hb dX4_copyFrom_122 (by decide) (fun h9 => absurd h9 (by decide)) (fun _ => ?_)
  refine lv_aload_n hx hb dX4_copyFrom_125 rfl (lv_at hl_278 1 rfl) ?_
  refine gP_ingots C hW_276 hp (hwc hwX4) (mc qw_167) dX4_copyFrom_126 ?_
  refine lv_iload_n hx hb dX4_copyFrom_129 rfl (lv_at hl_278 0 rfl) ?_
  refine g_ing C hW_276 hp 9 (by decide) (vlit (by decide)) dX4_copyFrom_130 ?_
  refine lv_aload_n hx hb dX4_copyFrom_131 rfl (lv_at hl_278 2 rfl) ?_
  refine gP_ingots C hW_276 hp2 (hwc hwX4) (mc qw_167) dX4_copyFrom_132 ?_
  refine lv_iload_n hx hb dX4_copyFrom_135 rfl (lv_at hl_278 0 rfl) ?_
  refine g_ing C hW_276 hp2 9 (by decide) (vlit (by decide)) dX4_copyFrom_136 ?_
  refine g_callv (va_runV (As := [.ref (ad G (65 * n2 + (41 + 2 * 9)))]) (rest := []) C.1 (cX3_copyFrom_ok l G (setRow X n w_275) (65 * n + (41 + 2 * 9)) (65 * n + (42 + 2 * 9)) n (80 + 4 * 9) (mix_ing (G := G) hp (by decide)) (65 * n2 + (41 + 2 * 9)) (65 * n2 + (42 + 2 * 9)) n2 (80 + 4 * 9) (mix_ing (G := G) hp2 (by decide))) (cwV 1 C.1.2.2.2.2 (gV qw_785 qw_781 qw_782 qw_73 qw_783) rfl rfl rfl (by decide +kernel) ⟨Nat.le_of_ble_eq_true rfl, Nat.le_of_ble_eq_true rfl⟩) (g_rMix C hW_276 hS_274 (mix_ing (G := G) hp (by decide)) [.ref (ad G (65 * n2 + (41 + 2 * 9)))]) rfl rfl hl_278.1 rfl (lv_room (Nat.le_of_ble_eq_true rfl)) dX4_copyFrom_137 ⟨Nat.zero_le _, Nat.zero_le _⟩) hS_274 (fun Y_280 H_281 locs_282 hW_283 hS_284 h_279 => ?_)
  rw [show (setRow X n w_275).1 n2 = X.1 n2 from (rd_in hne.symm rfl)] at h_279
  obtain ⟨w_285, ew_285⟩ : ∃ Z9, Z9 = cpyR w_275 (80 + 4 * 9) (X.1 n2) (80 + 4 * 9) := ⟨_, rfl⟩
  have hW_286 : Wd G (setRow X n w_285) H_281 := Wd.cast (by rw [h_279, ew_285]; exact ((congrArg (fun Z9 => setRow (setRow X n w_275) n (cpyR Z9 (80 + 4 * 9) (X.1 n2) (80 + 4 * 9))) rd_out).trans sr_out)) hW_283
  refine lv_iinc (v := 10) (lv' := [(2, .int 10), (0, .ref (ad G (65 * n + 0))), (1, .ref (ad G (65 * n2 + 0)))]) hx hb dX4_copyFrom_140 hl_278 (k := 0) rfl (by decide) (by decide) rfl (fun ls_287 hl_288 => ?_)
  refine lv_goto (tgt := 119) hx hb dX4_copyFrom_143 (by decide) ?_
  refine lv_iload_n hx hb dX4_copyFrom_119 rfl (lv_at hl_288 0 rfl) ?_
  refine lv_bipush (v := 12) hx hb dX4_copyFrom_120 (by decide) ?_
  refine lv_icmp_ge (tgt := 146) hx hb dX4_copyFrom_122 (by decide) (fun h9 => absurd h9 (by decide)) (fun _ => ?_)
  refine lv_aload_n hx hb dX4_copyFrom_125 rfl (lv_at hl_288 1 rfl) ?_
  refine gP_ingots C hW_286 hp (hwc hwX4) (mc qw_167) dX4_copyFrom_126 ?_
  refine lv_iload_n hx hb dX4_copyFrom_129 rfl (lv_at hl_288 0 rfl) ?_
  refine g_ing C hW_286 hp 10 (by decide) (vlit (by decide)) dX4_copyFrom_130 ?_
  refine lv_aload_n hx hb dX4_copyFrom_131 rfl (lv_at hl_288 2 rfl) ?_
  refine gP_ingots C hW_286 hp2 (hwc hwX4) (mc qw_167) dX4_copyFrom_132 ?_
  refine lv_iload_n hx hb dX4_copyFrom_135 rfl (lv_at hl_288 0 rfl) ?_
  refine g_ing C hW_286 hp2 10 (by decide) (vlit (by decide)) dX4_copyFrom_136 ?_
  refine g_callv (va_runV (As := [.ref (ad G (65 * n2 + (41 + 2 * 10)))]) (rest := []) C.1 (cX3_copyFrom_ok l G (setRow X n w_285) (65 * n + (41 + 2 * 10)) (65 * n + (42 + 2 * 10)) n (80 + 4 * 10) (mix_ing (G := G) hp (by decide)) (65 * n2 + (41 + 2 * 10)) (65 * n2 + (42 + 2 * 10)) n2 (80 + 4 * 10) (mix_ing (G := G) hp2 (by decide))) (cwV 1 C.1.2.2.2.2 (gV qw_785 qw_781 qw_782 qw_73 qw_783) rfl rfl rfl (by decide +kernel) ⟨Nat.le_of_ble_eq_true rfl, Nat.le_of_ble_eq_true rfl⟩) (g_rMix C hW_286 hS_284 (mix_ing (G := G) hp (by decide)) [.ref (ad G (65 * n2 + (41 + 2 * 10)))]) rfl rfl hl_288.1 rfl (lv_room (Nat.le_of_ble_eq_true rfl)) dX4_copyFrom_137 ⟨Nat.zero_le _, Nat.zero_le _⟩) hS_284 (fun Y_290 H_291 locs_292 hW_293 hS_294 h_289 => ?_)
  rw [show (setRow X n w_285).1 n2 = X.1 n2 from (rd_in hne.symm rfl)] at h_289
  obtain ⟨w_295, ew_295⟩ : ∃ Z9, Z9 = cpyR w_285 (80 + 4 * 10) (X.1 n2) (80 + 4 * 10) := ⟨_, rfl⟩
  have hW_296 : Wd G (setRow X n w_295) H_291 := Wd.cast (by rw [h_289, ew_295]; exact ((congrArg (fun Z9 => setRow (setRow X n w_285) n (cpyR Z9 (80 + 4 * 10) (X.1 n2) (80 + 4 * 10))) rd_out).trans sr_out)) hW_293
  refine lv_iinc (v := 11) (lv' := [(2, .int 11), (0, .ref (ad G (65 * n + 0))), (1, .ref (ad G (65 * n2 + 0)))]) hx hb dX4_copyFrom_140 hl_288 (k := 0) rfl (by decide) (by decide) rfl (fun ls_297 hl_298 => ?_)
  refine lv_goto (tgt := 119) hx hb dX4_copyFrom_143 (by decide) ?_
  refine lv_iload_n hx hb dX4_copyFrom_119 rfl (lv_at hl_298 0 rfl) ?_
  refine lv_bipush (v := 12) hx hb dX4_copyFrom_120 (by decide) ?_
  refine lv_icmp_ge (tgt := 146) hx hb dX4_copyFrom_122 (by decide) (fun h9 => absurd h9 (by decide)) (fun _ => ?_)
  refine lv_aload_n hx hb dX4_copyFrom_125 rfl (lv_at hl_298 1 rfl) ?_
  refine gP_ingots C hW_296 hp (hwc hwX4) (mc qw_167) dX4_copyFrom_126 ?_
  refine lv_iload_n hx hb dX4_copyFrom_129 rfl (lv_at hl_298 0 rfl) ?_
  refine g_ing C hW_296 hp 11 (by decide) (vlit (by decide)) dX4_copyFrom_130 ?_
  refine lv_aload_n hx hb dX4_copyFrom_131 rfl (lv_at hl_298 2 rfl) ?_
  refine gP_ingots C hW_296 hp2 (hwc hwX4) (mc qw_167) dX4_copyFrom_132 ?_
  refine lv_iload_n hx hb dX4_copyFrom_135 rfl (lv_at hl_298 0 rfl) ?_
  refine g_ing C hW_296 hp2 11 (by decide) (vlit (by decide)) dX4_copyFrom_136 ?_
  refine g_callv (va_runV (As := [.ref (ad G (65 * n2 + (41 + 2 * 11)))]) (rest := []) C.1 (cX3_copyFrom_ok l G (setRow X n w_295) (65 * n + (41 + 2 * 11)) (65 * n + (42 + 2 * 11)) n (80 + 4 * 11) (mix_ing (G := G) hp (by decide)) (65 * n2 + (41 + 2 * 11)) (65 * n2 + (42 + 2 * 11)) n2 (80 + 4 * 11) (mix_ing (G := G) hp2 (by decide))) (cwV 1 C.1.2.2.2.2 (gV qw_785 qw_781 qw_782 qw_73 qw_783) rfl rfl rfl (by decide +kernel) ⟨Nat.le_of_ble_eq_true rfl, Nat.le_of_ble_eq_true rfl⟩) (g_rMix C hW_296 hS_294 (mix_ing (G := G) hp (by decide)) [.ref (ad G (65 * n2 + (41 + 2 * 11)))]) rfl rfl hl_298.1 rfl (lv_room (Nat.le_of_ble_eq_true rfl)) dX4_copyFrom_137 ⟨Nat.zero_le _, Nat.zero_le _⟩) hS_294 (fun Y_300 H_301 locs_302 hW_303 hS_304 h_299 => ?_)
  rw [show (setRow X n w_295).1 n2 = X.1 n2 from (rd_in hne.symm rfl)] at h_299
  obtain ⟨w_305, ew_305⟩ : ∃ Z9, Z9 = cpyR w_295 (80 + 4 * 11) (X.1 n2) (80 + 4 * 11) := ⟨_, rfl⟩
  have hW_306 : Wd G (setRow X n w_305) H_301 := Wd.cast (by rw [h_299, ew_305]; exact ((congrArg (fun Z9 => setRow (setRow X n w_295) n (cpyR Z9 (80 + 4 * 11) (X.1 n2) (80 + 4 * 11))) rd_out).trans sr_out)) hW_303
  refine lv_iinc (v := 12) (lv' := [(2, .int 12), (0, .ref (ad G (65 * n + 0))), (1, .ref (ad G (65 * n2 + 0)))]) hx hb dX4_copyFrom_140 hl_298 (k := 0) rfl (by decide) (by decide) rfl (fun ls_307 hl_308 => ?_)
  refine lv_goto (tgt := 119) hx hb dX4_copyFrom_143 (by decide) ?_
  refine lv_iload_n hx hb dX4_copyFrom_119 rfl (lv_at hl_308 0 rfl) ?_
  refine lv_bipush (v := 12) hx hb dX4_copyFrom_120 (by decide) ?_
  refine lv_icmp_ge (tgt := 146) hx hb dX4_copyFrom_122 (by decide) (fun _ => ?_) (fun h9 => absurd h9 (by decide))
  refine lv_aload_n hx hb dX4_copyFrom_146 rfl (lv_at hl_308 1 rfl) ?_
  refine lv_aload_n hx hb dX4_copyFrom_147 rfl (lv_at hl_308 2 rfl) ?_
  refine gP_ingotCount C hW_306 hp2 (hwc hwX4) (mc qw_169) dX4_copyFrom_148 ?_
  refine g_top (y := X.1 n2 (43)) (congrFun (rd_in hne.symm rfl) _) ?_
  refine gP_ingotCountP C hW_306 hS_304 hp (hwc hwX4) (mc qw_169) dX4_copyFrom_151 (fun H_309 locs_310 hW_311 hS_312 => ?_)
  obtain ⟨w_313, ew_313⟩ : ∃ Z9, Z9 = upd w_305 (43) (X.1 n2 (43)) := ⟨_, rfl⟩
  have hW_314 : Wd G (setRow X n w_313) H_309 := Wd.cast (by rw [ew_313]; exact st_out) hW_311
  refine lv_aload_n hx hb dX4_copyFrom_154 rfl (lv_at hl_308 1 rfl) ?_
  refine gP_chargedSoFar C hW_314 hp (hwc hwX4) (mc qw_171) dX4_copyFrom_155 ?_
  refine lv_aload_n hx hb dX4_copyFrom_158 rfl (lv_at hl_308 2 rfl) ?_
  refine gP_chargedSoFar C hW_314 hp2 (hwc hwX4) (mc qw_171) dX4_copyFrom_159 ?_
  refine g_callv (va_runV (As := [.ref (ad G (65 * n2 + 7))]) (rest := []) C.1 (cX3_copyFrom_ok l G (setRow X n w_313) (65 * n + 7) (65 * n + 8) n 1 (mix_chg hp) (65 * n2 + 7) (65 * n2 + 8) n2 1 (mix_chg hp2)) (cwV 1 C.1.2.2.2.2 (gV qw_785 qw_781 qw_782 qw_73 qw_783) rfl rfl rfl (by decide +kernel) ⟨Nat.le_of_ble_eq_true rfl, Nat.le_of_ble_eq_true rfl⟩) (g_rMix C hW_314 hS_312 (mix_chg hp) [.ref (ad G (65 * n2 + 7))]) rfl rfl hl_308.1 rfl (lv_room (Nat.le_of_ble_eq_true rfl)) dX4_copyFrom_162 ⟨Nat.zero_le _, Nat.zero_le _⟩) hS_312 (fun Y_316 H_317 locs_318 hW_319 hS_320 h_315 => ?_)
  rw [show (setRow X n w_313).1 n2 = X.1 n2 from (rd_in hne.symm rfl)] at h_315
  obtain ⟨w_321, ew_321⟩ : ∃ Z9, Z9 = cpyR w_313 1 (X.1 n2) 1 := ⟨_, rfl⟩
  have hW_322 : Wd G (setRow X n w_321) H_317 := Wd.cast (by rw [h_315, ew_321]; exact ((congrArg (fun Z9 => setRow (setRow X n w_313) n (cpyR Z9 1 (X.1 n2) 1)) rd_out).trans sr_out)) hW_319
  refine lv_aload_n hx hb dX4_copyFrom_165 rfl (lv_at hl_308 1 rfl) ?_
  refine gP_slagSoFar C hW_322 hp (hwc hwX4) (mc qw_173) dX4_copyFrom_166 ?_
  refine lv_aload_n hx hb dX4_copyFrom_169 rfl (lv_at hl_308 2 rfl) ?_
  refine gP_slagSoFar C hW_322 hp2 (hwc hwX4) (mc qw_173) dX4_copyFrom_170 ?_
  refine g_callv (va_runV (As := [.ref (ad G (65 * n2 + 9))]) (rest := []) C.1 (cX3_copyFrom_ok l G (setRow X n w_321) (65 * n + 9) (65 * n + 10) n 5 (mix_slag hp) (65 * n2 + 9) (65 * n2 + 10) n2 5 (mix_slag hp2)) (cwV 1 C.1.2.2.2.2 (gV qw_785 qw_781 qw_782 qw_73 qw_783) rfl rfl rfl (by decide +kernel) ⟨Nat.le_of_ble_eq_true rfl, Nat.le_of_ble_eq_true rfl⟩) (g_rMix C hW_322 hS_320 (mix_slag hp) [.ref (ad G (65 * n2 + 9))]) rfl rfl hl_308.1 rfl (lv_room (Nat.le_of_ble_eq_true rfl)) dX4_copyFrom_173 ⟨Nat.zero_le _, Nat.zero_le _⟩) hS_320 (fun Y_324 H_325 locs_326 hW_327 hS_328 h_323 => ?_)
  rw [show (setRow X n w_321).1 n2 = X.1 n2 from (rd_in hne.symm rfl)] at h_323
  obtain ⟨w_329, ew_329⟩ : ∃ Z9, Z9 = cpyR w_321 5 (X.1 n2) 5 := ⟨_, rfl⟩
  have hW_330 : Wd G (setRow X n w_329) H_325 := Wd.cast (by rw [h_323, ew_329]; exact ((congrArg (fun Z9 => setRow (setRow X n w_321) n (cpyR Z9 5 (X.1 n2) 5)) rd_out).trans sr_out)) hW_327
  refine lv_aload_n hx hb dX4_copyFrom_176 rfl (lv_at hl_308 1 rfl) ?_
  refine lv_aload_n hx hb dX4_copyFrom_177 rfl (lv_at hl_308 2 rfl) ?_
  refine gP_minutes C hW_330 hp2 (hwc hwX4) (mc qw_175) dX4_copyFrom_178 ?_
  refine g_top (y := X.1 n2 (0)) (congrFun (rd_in hne.symm rfl) _) ?_
  refine gP_minutesP C hW_330 hS_328 hp (hwc hwX4) (mc qw_175) dX4_copyFrom_181 (fun H_331 locs_332 hW_333 hS_334 => ?_)
  obtain ⟨w_335, ew_335⟩ : ∃ Z9, Z9 = upd w_329 (0) (X.1 n2 (0)) := ⟨_, rfl⟩
  have hW_336 : Wd G (setRow X n w_335) H_331 := Wd.cast (by rw [ew_335]; exact st_out) hW_333
  exact g_vret C hr hlk hW_336 hS_334 dX4_copyFrom_184 (by subst ew_335; subst ew_329; subst ew_321; subst ew_313; subst ew_305; subst ew_295; subst ew_285; subst ew_275; subst ew_265; subst ew_255; subst ew_245; subst ew_235; subst ew_225; subst ew_215; subst ew_205; subst ew_195; subst ew_185; subst ew_177; subst ew_171; subst ew_161; subst ew_155; subst ew_145; subst ew_139; subst ew_129; subst ew_123; subst ew_113; subst ew_107; subst ew_97; subst ew_91; subst ew_79; subst ew_69; subst ew_59; subst ew_47; subst ew_41; subst ew_31; subst ew_25; subst ew_15; subst ew_9; rfl)

set_option maxHeartbeats 4000000 in
set_option maxRecDepth 100000 in
theorem cX4_passOneMinute_ok (l : Launch) (G : GT) (X : St) (n : Nat) (hp : n < 11) : MetV l G yX4_passOneMinute (wsG yX4_passOneMinute cX4_passOneMinute 2 none) (rmz 2 41) [.ref (ad G (65 * n + 0))] X (fun Y => Y = setRow X n (minuteR (X.1 n))) := by
  refine g_met (cc := cX4_passOneMinute) (maxL := 2) (ret := none) (by decide) rfl (Nat.le_of_ble_eq_true rfl) ?_
  intro p e s m below meth c ls C hr hlk hnm hW hl
  have hx := C.1.1
  have hb := C.1.2.1
  have hS : va_S (Ab G) s.heap s.heap [] := va_S.rf
  have hl : lv_has ls 2 [(0, .ref (ad G (65 * n + 0)))] := hl
  refine lv_aload_n hx hb dX4_passOneMinute_0 rfl (lv_at hl 0 rfl) ?_
  refine lv_dup hx hb dX4_passOneMinute_1 rfl ?_
  refine gP_minutes C hW hp (hwc hwX4) (mc qw_175) dX4_passOneMinute_2 ?_
  refine lv_iconst (v := 1) hx hb dX4_passOneMinute_5 (by decide) ?_
  refine lv_iadd hx hb dX4_passOneMinute_6 ?_
  refine gP_minutesP C hW hS hp (hwc hwX4) (mc qw_175) dX4_passOneMinute_7 (fun H_1 locs_2 hW_3 hS_4 => ?_)
  obtain ⟨w_5, ew_5⟩ : ∃ Z9, Z9 = upd (X.1 n) (0) ((X.1 n (0)) + 1) := ⟨_, rfl⟩
  have hW_6 : Wd G (setRow X n w_5) H_1 := Wd.cast (by rw [ew_5]; exact st_base) hW_3
  refine lv_iconst (v := 0) hx hb dX4_passOneMinute_10 (by decide) ?_
  refine lv_istore_n (lv' := [(1, .int 0), (0, .ref (ad G (65 * n + 0)))]) hx hb dX4_passOneMinute_11 rfl hl (by decide) rfl (fun ls_7 hl_8 => ?_)
  refine lv_iload_n hx hb dX4_passOneMinute_12 rfl (lv_at hl_8 0 rfl) ?_
  refine lv_iconst (v := 3) hx hb dX4_passOneMinute_13 (by decide) ?_
  refine lv_icmp_ge (tgt := 37) hx hb dX4_passOneMinute_14 (by decide) (fun h9 => absurd h9 (by decide)) (fun _ => ?_)
  refine lv_aload_n hx hb dX4_passOneMinute_17 rfl (lv_at hl_8 1 rfl) ?_
  refine gP_furnaces C hW_6 hp (hwc hwX4) (mc qw_155) dX4_passOneMinute_18 ?_
  refine lv_iload_n hx hb dX4_passOneMinute_21 rfl (lv_at hl_8 0 rfl) ?_
  refine g_fur C hW_6 hp 0 (by decide) (vlit (by decide)) dX4_passOneMinute_22 ?_
  refine lv_aload_n hx hb dX4_passOneMinute_23 rfl (lv_at hl_8 1 rfl) ?_
  refine lv_iload_n hx hb dX4_passOneMinute_24 rfl (lv_at hl_8 0 rfl) ?_
  refine g_calli (va_runV (As := [.int 0]) (rest := [.ref (ad G (65 * n + (11 + 3 * 0)))]) C.1 (cX4_riseOf_ok l G (setRow X n w_5) n hp 0 (by decide)) (cwV 1 C.1.2.2.2.2 (gV qw_366 qw_368 qw_0 qw_72 qw_369) rfl rfl rfl (by decide +kernel) ⟨Nat.le_of_ble_eq_true rfl, Nat.le_of_ble_eq_true rfl⟩) (g_rPlant C hW_6 hS_4 hp [.int 0]) rfl rfl hl_8.1 rfl (lv_room (Nat.le_of_ble_eq_true rfl)) dX4_passOneMinute_25 ⟨Nat.zero_le _, Nat.zero_le _⟩) hS_4 (fun r_10 Y_11 H_12 locs_13 hW_14 hS_15 h_9 => ?_)
  obtain ⟨h_9, hy_16⟩ := h_9
  replace hy_16 := hy_16.symm
  subst hy_16
  replace h_9 := h_9.trans (congrArg (fun Z9 => riseW Z9 0) rd_out)
  subst h_9
  refine g_callv (va_runV (As := [.int (riseW w_5 0)]) (rest := []) C.1 (cX6_warm_ok l G (setRow X n w_5) (65 * n + (11 + 3 * 0)) (65 * n + (12 + 3 * 0)) (65 * n + (13 + 3 * 0)) n (9 + 6 * 0) 10 (ves_fur (G := G) hp (by decide)) (riseW w_5 0)) (cwV 1 C.1.2.2.2.2 (gV qw_904 qw_905 qw_906 qw_74 qw_907) rfl rfl rfl (by decide +kernel) ⟨Nat.le_of_ble_eq_true rfl, Nat.le_of_ble_eq_true rfl⟩) (g_rVes C hW_14 hS_15 (ves_fur (G := G) hp (by decide)) [.int (riseW w_5 0)]) rfl rfl hl_8.1 rfl (lv_room (Nat.le_of_ble_eq_true rfl)) dX4_passOneMinute_28 ⟨Nat.zero_le _, Nat.zero_le _⟩) hS_15 (fun Y_18 H_19 locs_20 hW_21 hS_22 h_17 => ?_)
  obtain ⟨w_23, ew_23⟩ : ∃ Z9, Z9 = upd w_5 (9 + 6 * 0 + 4) (lim (w_5 (9 + 6 * 0 + 4) + (riseW w_5 0))) := ⟨_, rfl⟩
  have hW_24 : Wd G (setRow X n w_23) H_19 := Wd.cast (by rw [h_17, ew_23]; exact ((congrArg (fun Z9 => setRow (setRow X n w_5) n (upd Z9 (9 + 6 * 0 + 4) (lim (Z9 (9 + 6 * 0 + 4) + (riseW w_5 0))))) rd_out).trans sr_out)) hW_21
  refine lv_iinc (v := 1) (lv' := [(1, .int 1), (0, .ref (ad G (65 * n + 0)))]) hx hb dX4_passOneMinute_31 hl_8 (k := 0) rfl (by decide) (by decide) rfl (fun ls_25 hl_26 => ?_)
  refine lv_goto (tgt := 12) hx hb dX4_passOneMinute_34 (by decide) ?_
  refine lv_iload_n hx hb dX4_passOneMinute_12 rfl (lv_at hl_26 0 rfl) ?_
  refine lv_iconst (v := 3) hx hb dX4_passOneMinute_13 (by decide) ?_
  refine lv_icmp_ge (tgt := 37) hx hb dX4_passOneMinute_14 (by decide) (fun h9 => absurd h9 (by decide)) (fun _ => ?_)
  refine lv_aload_n hx hb dX4_passOneMinute_17 rfl (lv_at hl_26 1 rfl) ?_
  refine gP_furnaces C hW_24 hp (hwc hwX4) (mc qw_155) dX4_passOneMinute_18 ?_
  refine lv_iload_n hx hb dX4_passOneMinute_21 rfl (lv_at hl_26 0 rfl) ?_
  refine g_fur C hW_24 hp 1 (by decide) (vlit (by decide)) dX4_passOneMinute_22 ?_
  refine lv_aload_n hx hb dX4_passOneMinute_23 rfl (lv_at hl_26 1 rfl) ?_
  refine lv_iload_n hx hb dX4_passOneMinute_24 rfl (lv_at hl_26 0 rfl) ?_
  refine g_calli (va_runV (As := [.int 1]) (rest := [.ref (ad G (65 * n + (11 + 3 * 1)))]) C.1 (cX4_riseOf_ok l G (setRow X n w_23) n hp 1 (by decide)) (cwV 1 C.1.2.2.2.2 (gV qw_366 qw_368 qw_0 qw_72 qw_369) rfl rfl rfl (by decide +kernel) ⟨Nat.le_of_ble_eq_true rfl, Nat.le_of_ble_eq_true rfl⟩) (g_rPlant C hW_24 hS_22 hp [.int 1]) rfl rfl hl_26.1 rfl (lv_room (Nat.le_of_ble_eq_true rfl)) dX4_passOneMinute_25 ⟨Nat.zero_le _, Nat.zero_le _⟩) hS_22 (fun r_28 Y_29 H_30 locs_31 hW_32 hS_33 h_27 => ?_)
  obtain ⟨h_27, hy_34⟩ := h_27
  replace hy_34 := hy_34.symm
  subst hy_34
  replace h_27 := h_27.trans (congrArg (fun Z9 => riseW Z9 1) rd_out)
  subst h_27
  refine g_callv (va_runV (As := [.int (riseW w_23 1)]) (rest := []) C.1 (cX6_warm_ok l G (setRow X n w_23) (65 * n + (11 + 3 * 1)) (65 * n + (12 + 3 * 1)) (65 * n + (13 + 3 * 1)) n (9 + 6 * 1) 10 (ves_fur (G := G) hp (by decide)) (riseW w_23 1)) (cwV 1 C.1.2.2.2.2 (gV qw_904 qw_905 qw_906 qw_74 qw_907) rfl rfl rfl (by decide +kernel) ⟨Nat.le_of_ble_eq_true rfl, Nat.le_of_ble_eq_true rfl⟩) (g_rVes C hW_32 hS_33 (ves_fur (G := G) hp (by decide)) [.int (riseW w_23 1)]) rfl rfl hl_26.1 rfl (lv_room (Nat.le_of_ble_eq_true rfl)) dX4_passOneMinute_28 ⟨Nat.zero_le _, Nat.zero_le _⟩) hS_33 (fun Y_36 H_37 locs_38 hW_39 hS_40 h_35 => ?_)
  obtain ⟨w_41, ew_41⟩ : ∃ Z9, Z9 = upd w_23 (9 + 6 * 1 + 4) (lim (w_23 (9 + 6 * 1 + 4) + (riseW w_23 1))) := ⟨_, rfl⟩
  have hW_42 : Wd G (setRow X n w_41) H_37 := Wd.cast (by rw [h_35, ew_41]; exact ((congrArg (fun Z9 => setRow (setRow X n w_23) n (upd Z9 (9 + 6 * 1 + 4) (lim (Z9 (9 + 6 * 1 + 4) + (riseW w_23 1))))) rd_out).trans sr_out)) hW_39
  refine lv_iinc (v := 2) (lv' := [(1, .int 2), (0, .ref (ad G (65 * n + 0)))]) hx hb dX4_passOneMinute_31 hl_26 (k := 0) rfl (by decide) (by decide) rfl (fun ls_43 hl_44 => ?_)
  refine lv_goto (tgt := 12) hx hb dX4_passOneMinute_34 (by decide) ?_
  refine lv_iload_n hx hb dX4_passOneMinute_12 rfl (lv_at hl_44 0 rfl) ?_
  refine lv_iconst (v := 3) hx hb dX4_passOneMinute_13 (by decide) ?_
  refine lv_icmp_ge (tgt := 37) hx hb dX4_passOneMinute_14 (by decide) (fun h9 => absurd h9 (by decide)) (fun _ => ?_)
  refine lv_aload_n hx hb dX4_passOneMinute_17 rfl (lv_at hl_44 1 rfl) ?_
  refine gP_furnaces C hW_42 hp (hwc hwX4) (mc qw_155) dX4_passOneMinute_18 ?_
  refine lv_iload_n hx hb dX4_passOneMinute_21 rfl (lv_at hl_44 0 rfl) ?_
  refine g_fur C hW_42 hp 2 (by decide) (vlit (by decide)) dX4_passOneMinute_22 ?_
  refine lv_aload_n hx hb dX4_passOneMinute_23 rfl (lv_at hl_44 1 rfl) ?_
  refine lv_iload_n hx hb dX4_passOneMinute_24 rfl (lv_at hl_44 0 rfl) ?_
  refine g_calli (va_runV (As := [.int 2]) (rest := [.ref (ad G (65 * n + (11 + 3 * 2)))]) C.1 (cX4_riseOf_ok l G (setRow X n w_41) n hp 2 (by decide)) (cwV 1 C.1.2.2.2.2 (gV qw_366 qw_368 qw_0 qw_72 qw_369) rfl rfl rfl (by decide +kernel) ⟨Nat.le_of_ble_eq_true rfl, Nat.le_of_ble_eq_true rfl⟩) (g_rPlant C hW_42 hS_40 hp [.int 2]) rfl rfl hl_44.1 rfl (lv_room (Nat.le_of_ble_eq_true rfl)) dX4_passOneMinute_25 ⟨Nat.zero_le _, Nat.zero_le _⟩) hS_40 (fun r_46 Y_47 H_48 locs_49 hW_50 hS_51 h_45 => ?_)
  obtain ⟨h_45, hy_52⟩ := h_45
  replace hy_52 := hy_52.symm
  subst hy_52
  replace h_45 := h_45.trans (congrArg (fun Z9 => riseW Z9 2) rd_out)
  subst h_45
  refine g_callv (va_runV (As := [.int (riseW w_41 2)]) (rest := []) C.1 (cX6_warm_ok l G (setRow X n w_41) (65 * n + (11 + 3 * 2)) (65 * n + (12 + 3 * 2)) (65 * n + (13 + 3 * 2)) n (9 + 6 * 2) 10 (ves_fur (G := G) hp (by decide)) (riseW w_41 2)) (cwV 1 C.1.2.2.2.2 (gV qw_904 qw_905 qw_906 qw_74 qw_907) rfl rfl rfl (by decide +kernel) ⟨Nat.le_of_ble_eq_true rfl, Nat.le_of_ble_eq_true rfl⟩) (g_rVes C hW_50 hS_51 (ves_fur (G := G) hp (by decide)) [.int (riseW w_41 2)]) rfl rfl hl_44.1 rfl (lv_room (Nat.le_of_ble_eq_true rfl)) dX4_passOneMinute_28 ⟨Nat.zero_le _, Nat.zero_le _⟩) hS_51 (fun Y_54 H_55 locs_56 hW_57 hS_58 h_53 => ?_)
  obtain ⟨w_59, ew_59⟩ : ∃ Z9, Z9 = upd w_41 (9 + 6 * 2 + 4) (lim (w_41 (9 + 6 * 2 + 4) + (riseW w_41 2))) := ⟨_, rfl⟩
  have hW_60 : Wd G (setRow X n w_59) H_55 := Wd.cast (by rw [h_53, ew_59]; exact ((congrArg (fun Z9 => setRow (setRow X n w_41) n (upd Z9 (9 + 6 * 2 + 4) (lim (Z9 (9 + 6 * 2 + 4) + (riseW w_41 2))))) rd_out).trans sr_out)) hW_57
  refine lv_iinc (v := 3) (lv' := [(1, .int 3), (0, .ref (ad G (65 * n + 0)))]) hx hb dX4_passOneMinute_31 hl_44 (k := 0) rfl (by decide) (by decide) rfl (fun ls_61 hl_62 => ?_)
  refine lv_goto (tgt := 12) hx hb dX4_passOneMinute_34 (by decide) ?_
  refine lv_iload_n hx hb dX4_passOneMinute_12 rfl (lv_at hl_62 0 rfl) ?_
  refine lv_iconst (v := 3) hx hb dX4_passOneMinute_13 (by decide) ?_
  refine lv_icmp_ge (tgt := 37) hx hb dX4_passOneMinute_14 (by decide) (fun _ => ?_) (fun h9 => absurd h9 (by decide))
  refine lv_iconst (v := 0) hx hb dX4_passOneMinute_37 (by decide) ?_
  refine lv_istore_n (lv' := [(1, .int 0), (0, .ref (ad G (65 * n + 0)))]) hx hb dX4_passOneMinute_38 rfl hl_62 (by decide) rfl (fun ls_63 hl_64 => ?_)
  refine lv_iload_n hx hb dX4_passOneMinute_39 rfl (lv_at hl_64 0 rfl) ?_
  refine lv_iconst (v := 3) hx hb dX4_passOneMinute_40 (by decide) ?_
  refine lv_icmp_ge (tgt := 76) hx hb dX4_passOneMinute_41 (by decide) (fun h9 => absurd h9 (by decide)) (fun _ => ?_)
  refine lv_aload_n hx hb dX4_passOneMinute_44 rfl (lv_at hl_64 1 rfl) ?_
  refine gP_ladles C hW_60 hp (hwc hwX4) (mc qw_159) dX4_passOneMinute_45 ?_
  refine lv_iload_n hx hb dX4_passOneMinute_48 rfl (lv_at hl_64 0 rfl) ?_
  refine g_lad C hW_60 hp 0 (by decide) (vlit (by decide)) dX4_passOneMinute_49 ?_
  refine g_contentN C hW_60 (ves_lad (G := G) hp (by decide)) (hwc hwX6) nw_20 dX4_passOneMinute_50 ?_
  refine g_calli (va_runV (As := []) (rest := []) C.1 (cX3_sum_ok l G (setRow X n w_59) (65 * n + (21 + 3 * 0)) (65 * n + (22 + 3 * 0)) n (27 + 5 * 0) ((ves_lad (G := G) hp (by decide)).mix)) (cwV 0 C.1.2.2.2.2 (gV qw_337 qw_338 qw_339 qw_73 qw_340) rfl rfl rfl (by decide +kernel) ⟨Nat.le_of_ble_eq_true rfl, Nat.le_of_ble_eq_true rfl⟩) (g_rMix C hW_60 hS_58 (ves_lad (G := G) hp (by decide)).mix []) rfl rfl hl_64.1 rfl (lv_room (Nat.le_of_ble_eq_true rfl)) dX4_passOneMinute_53 ⟨Nat.zero_le _, Nat.zero_le _⟩) hS_58 (fun r_66 Y_67 H_68 locs_69 hW_70 hS_71 h_65 => ?_)
  obtain ⟨h_65, hy_72⟩ := h_65
  replace hy_72 := hy_72.symm
  subst hy_72
  replace h_65 := h_65.trans (congrArg (fun Z9 => sumW Z9 (27 + 5 * 0)) rd_out)
  subst h_65
  refine lv_if_le (tgt := 70) hx hb dX4_passOneMinute_56 (by decide) (fun b_73 => ?_) (fun b_73 => ?_)
  · refine lv_iinc (v := 1) (lv' := [(1, .int 1), (0, .ref (ad G (65 * n + 0)))]) hx hb dX4_passOneMinute_70 hl_64 (k := 0) rfl (by decide) (by decide) rfl (fun ls_74 hl_75 => ?_)
    refine lv_goto (tgt := 39) hx hb dX4_passOneMinute_73 (by decide) ?_
    refine lv_iload_n hx hb dX4_passOneMinute_39 rfl (lv_at hl_75 0 rfl) ?_
    refine lv_iconst (v := 3) hx hb dX4_passOneMinute_40 (by decide) ?_
    refine lv_icmp_ge (tgt := 76) hx hb dX4_passOneMinute_41 (by decide) (fun h9 => absurd h9 (by decide)) (fun _ => ?_)
    refine lv_aload_n hx hb dX4_passOneMinute_44 rfl (lv_at hl_75 1 rfl) ?_
    refine gP_ladles C hW_70 hp (hwc hwX4) (mc qw_159) dX4_passOneMinute_45 ?_
    refine lv_iload_n hx hb dX4_passOneMinute_48 rfl (lv_at hl_75 0 rfl) ?_
    refine g_lad C hW_70 hp 1 (by decide) (vlit (by decide)) dX4_passOneMinute_49 ?_
    refine g_contentN C hW_70 (ves_lad (G := G) hp (by decide)) (hwc hwX6) nw_20 dX4_passOneMinute_50 ?_
    refine g_calli (va_runV (As := []) (rest := []) C.1 (cX3_sum_ok l G (setRow X n w_59) (65 * n + (21 + 3 * 1)) (65 * n + (22 + 3 * 1)) n (27 + 5 * 1) ((ves_lad (G := G) hp (by decide)).mix)) (cwV 0 C.1.2.2.2.2 (gV qw_337 qw_338 qw_339 qw_73 qw_340) rfl rfl rfl (by decide +kernel) ⟨Nat.le_of_ble_eq_true rfl, Nat.le_of_ble_eq_true rfl⟩) (g_rMix C hW_70 hS_71 (ves_lad (G := G) hp (by decide)).mix []) rfl rfl hl_75.1 rfl (lv_room (Nat.le_of_ble_eq_true rfl)) dX4_passOneMinute_53 ⟨Nat.zero_le _, Nat.zero_le _⟩) hS_71 (fun r_77 Y_78 H_79 locs_80 hW_81 hS_82 h_76 => ?_)
    obtain ⟨h_76, hy_83⟩ := h_76
    replace hy_83 := hy_83.symm
    subst hy_83
    replace h_76 := h_76.trans (congrArg (fun Z9 => sumW Z9 (27 + 5 * 1)) rd_out)
    subst h_76
    refine lv_if_le (tgt := 70) hx hb dX4_passOneMinute_56 (by decide) (fun b_84 => ?_) (fun b_84 => ?_)
    · refine lv_iinc (v := 2) (lv' := [(1, .int 2), (0, .ref (ad G (65 * n + 0)))]) hx hb dX4_passOneMinute_70 hl_75 (k := 0) rfl (by decide) (by decide) rfl (fun ls_85 hl_86 => ?_)
      refine lv_goto (tgt := 39) hx hb dX4_passOneMinute_73 (by decide) ?_
      refine lv_iload_n hx hb dX4_passOneMinute_39 rfl (lv_at hl_86 0 rfl) ?_
      refine lv_iconst (v := 3) hx hb dX4_passOneMinute_40 (by decide) ?_
      refine lv_icmp_ge (tgt := 76) hx hb dX4_passOneMinute_41 (by decide) (fun h9 => absurd h9 (by decide)) (fun _ => ?_)
      refine lv_aload_n hx hb dX4_passOneMinute_44 rfl (lv_at hl_86 1 rfl) ?_
      refine gP_ladles C hW_81 hp (hwc hwX4) (mc qw_159) dX4_passOneMinute_45 ?_
      refine lv_iload_n hx hb dX4_passOneMinute_48 rfl (lv_at hl_86 0 rfl) ?_
      refine g_lad C hW_81 hp 2 (by decide) (vlit (by decide)) dX4_passOneMinute_49 ?_
      refine g_contentN C hW_81 (ves_lad (G := G) hp (by decide)) (hwc hwX6) nw_20 dX4_passOneMinute_50 ?_
      refine g_calli (va_runV (As := []) (rest := []) C.1 (cX3_sum_ok l G (setRow X n w_59) (65 * n + (21 + 3 * 2)) (65 * n + (22 + 3 * 2)) n (27 + 5 * 2) ((ves_lad (G := G) hp (by decide)).mix)) (cwV 0 C.1.2.2.2.2 (gV qw_337 qw_338 qw_339 qw_73 qw_340) rfl rfl rfl (by decide +kernel) ⟨Nat.le_of_ble_eq_true rfl, Nat.le_of_ble_eq_true rfl⟩) (g_rMix C hW_81 hS_82 (ves_lad (G := G) hp (by decide)).mix []) rfl rfl hl_86.1 rfl (lv_room (Nat.le_of_ble_eq_true rfl)) dX4_passOneMinute_53 ⟨Nat.zero_le _, Nat.zero_le _⟩) hS_82 (fun r_88 Y_89 H_90 locs_91 hW_92 hS_93 h_87 => ?_)
      obtain ⟨h_87, hy_94⟩ := h_87
      replace hy_94 := hy_94.symm
      subst hy_94
      replace h_87 := h_87.trans (congrArg (fun Z9 => sumW Z9 (27 + 5 * 2)) rd_out)
      subst h_87
      refine lv_if_le (tgt := 70) hx hb dX4_passOneMinute_56 (by decide) (fun b_95 => ?_) (fun b_95 => ?_)
      · refine lv_iinc (v := 3) (lv' := [(1, .int 3), (0, .ref (ad G (65 * n + 0)))]) hx hb dX4_passOneMinute_70 hl_86 (k := 0) rfl (by decide) (by decide) rfl (fun ls_96 hl_97 => ?_)
        refine lv_goto (tgt := 39) hx hb dX4_passOneMinute_73 (by decide) ?_
        refine lv_iload_n hx hb dX4_passOneMinute_39 rfl (lv_at hl_97 0 rfl) ?_
        refine lv_iconst (v := 3) hx hb dX4_passOneMinute_40 (by decide) ?_
        refine lv_icmp_ge (tgt := 76) hx hb dX4_passOneMinute_41 (by decide) (fun _ => ?_) (fun h9 => absurd h9 (by decide))
        exact g_vret C hr hlk hW_92 hS_93 dX4_passOneMinute_76 (by simp only [minuteR, furR, ← ew_5, ← ew_23, ← ew_41, ← ew_59, (show ladR w_59 0 = w_59 from if_pos b_73), (show ladR w_59 1 = w_59 from if_pos b_84), (show ladR w_59 2 = w_59 from if_pos b_95)])
      · refine lv_aload_n hx hb dX4_passOneMinute_59 rfl (lv_at hl_86 1 rfl) ?_
        refine gP_ladles C hW_92 hp (hwc hwX4) (mc qw_159) dX4_passOneMinute_60 ?_
        refine lv_iload_n hx hb dX4_passOneMinute_63 rfl (lv_at hl_86 0 rfl) ?_
        refine g_lad C hW_92 hp 2 (by decide) (vlit (by decide)) dX4_passOneMinute_64 ?_
        refine lv_bipush (v := (-10)) hx hb dX4_passOneMinute_65 (by decide) ?_
        refine g_callv (va_runV (As := [.int (-10)]) (rest := []) C.1 (cX6_warm_ok l G (setRow X n w_59) (65 * n + (20 + 3 * 2)) (65 * n + (21 + 3 * 2)) (65 * n + (22 + 3 * 2)) n (27 + 5 * 2) 0 (ves_lad (G := G) hp (by decide)) (-10)) (cwV 1 C.1.2.2.2.2 (gV qw_904 qw_905 qw_906 qw_74 qw_907) rfl rfl rfl (by decide +kernel) ⟨Nat.le_of_ble_eq_true rfl, Nat.le_of_ble_eq_true rfl⟩) (g_rVes C hW_92 hS_93 (ves_lad (G := G) hp (by decide)) [.int (-10)]) rfl rfl hl_86.1 rfl (lv_room (Nat.le_of_ble_eq_true rfl)) dX4_passOneMinute_67 ⟨Nat.zero_le _, Nat.zero_le _⟩) hS_93 (fun Y_99 H_100 locs_101 hW_102 hS_103 h_98 => ?_)
        obtain ⟨w_104, ew_104⟩ : ∃ Z9, Z9 = upd w_59 (27 + 5 * 2 + 4) (lim (w_59 (27 + 5 * 2 + 4) + (-10))) := ⟨_, rfl⟩
        have hW_105 : Wd G (setRow X n w_104) H_100 := Wd.cast (by rw [h_98, ew_104]; exact ((congrArg (fun Z9 => setRow (setRow X n w_59) n (upd Z9 (27 + 5 * 2 + 4) (lim (Z9 (27 + 5 * 2 + 4) + (-10))))) rd_out).trans sr_out)) hW_102
        refine lv_iinc (v := 3) (lv' := [(1, .int 3), (0, .ref (ad G (65 * n + 0)))]) hx hb dX4_passOneMinute_70 hl_86 (k := 0) rfl (by decide) (by decide) rfl (fun ls_106 hl_107 => ?_)
        refine lv_goto (tgt := 39) hx hb dX4_passOneMinute_73 (by decide) ?_
        refine lv_iload_n hx hb dX4_passOneMinute_39 rfl (lv_at hl_107 0 rfl) ?_
        refine lv_iconst (v := 3) hx hb dX4_passOneMinute_40 (by decide) ?_
        refine lv_icmp_ge (tgt := 76) hx hb dX4_passOneMinute_41 (by decide) (fun _ => ?_) (fun h9 => absurd h9 (by decide))
        exact g_vret C hr hlk hW_105 hS_103 dX4_passOneMinute_76 (by simp only [minuteR, furR, ← ew_5, ← ew_23, ← ew_41, ← ew_59, ← ew_104, (show ladR w_59 0 = w_59 from if_pos b_73), (show ladR w_59 1 = w_59 from if_pos b_84), (show ladR w_59 2 = w_104 from (if_neg b_95).trans ew_104.symm)])
    · refine lv_aload_n hx hb dX4_passOneMinute_59 rfl (lv_at hl_75 1 rfl) ?_
      refine gP_ladles C hW_81 hp (hwc hwX4) (mc qw_159) dX4_passOneMinute_60 ?_
      refine lv_iload_n hx hb dX4_passOneMinute_63 rfl (lv_at hl_75 0 rfl) ?_
      refine g_lad C hW_81 hp 1 (by decide) (vlit (by decide)) dX4_passOneMinute_64 ?_
      refine lv_bipush (v := (-10)) hx hb dX4_passOneMinute_65 (by decide) ?_
      refine g_callv (va_runV (As := [.int (-10)]) (rest := []) C.1 (cX6_warm_ok l G (setRow X n w_59) (65 * n + (20 + 3 * 1)) (65 * n + (21 + 3 * 1)) (65 * n + (22 + 3 * 1)) n (27 + 5 * 1) 0 (ves_lad (G := G) hp (by decide)) (-10)) (cwV 1 C.1.2.2.2.2 (gV qw_904 qw_905 qw_906 qw_74 qw_907) rfl rfl rfl (by decide +kernel) ⟨Nat.le_of_ble_eq_true rfl, Nat.le_of_ble_eq_true rfl⟩) (g_rVes C hW_81 hS_82 (ves_lad (G := G) hp (by decide)) [.int (-10)]) rfl rfl hl_75.1 rfl (lv_room (Nat.le_of_ble_eq_true rfl)) dX4_passOneMinute_67 ⟨Nat.zero_le _, Nat.zero_le _⟩) hS_82 (fun Y_109 H_110 locs_111 hW_112 hS_113 h_108 => ?_)
      obtain ⟨w_114, ew_114⟩ : ∃ Z9, Z9 = upd w_59 (27 + 5 * 1 + 4) (lim (w_59 (27 + 5 * 1 + 4) + (-10))) := ⟨_, rfl⟩
      have hW_115 : Wd G (setRow X n w_114) H_110 := Wd.cast (by rw [h_108, ew_114]; exact ((congrArg (fun Z9 => setRow (setRow X n w_59) n (upd Z9 (27 + 5 * 1 + 4) (lim (Z9 (27 + 5 * 1 + 4) + (-10))))) rd_out).trans sr_out)) hW_112
      refine lv_iinc (v := 2) (lv' := [(1, .int 2), (0, .ref (ad G (65 * n + 0)))]) hx hb dX4_passOneMinute_70 hl_75 (k := 0) rfl (by decide) (by decide) rfl (fun ls_116 hl_117 => ?_)
      refine lv_goto (tgt := 39) hx hb dX4_passOneMinute_73 (by decide) ?_
      refine lv_iload_n hx hb dX4_passOneMinute_39 rfl (lv_at hl_117 0 rfl) ?_
      refine lv_iconst (v := 3) hx hb dX4_passOneMinute_40 (by decide) ?_
      refine lv_icmp_ge (tgt := 76) hx hb dX4_passOneMinute_41 (by decide) (fun h9 => absurd h9 (by decide)) (fun _ => ?_)
      refine lv_aload_n hx hb dX4_passOneMinute_44 rfl (lv_at hl_117 1 rfl) ?_
      refine gP_ladles C hW_115 hp (hwc hwX4) (mc qw_159) dX4_passOneMinute_45 ?_
      refine lv_iload_n hx hb dX4_passOneMinute_48 rfl (lv_at hl_117 0 rfl) ?_
      refine g_lad C hW_115 hp 2 (by decide) (vlit (by decide)) dX4_passOneMinute_49 ?_
      refine g_contentN C hW_115 (ves_lad (G := G) hp (by decide)) (hwc hwX6) nw_20 dX4_passOneMinute_50 ?_
      refine g_calli (va_runV (As := []) (rest := []) C.1 (cX3_sum_ok l G (setRow X n w_114) (65 * n + (21 + 3 * 2)) (65 * n + (22 + 3 * 2)) n (27 + 5 * 2) ((ves_lad (G := G) hp (by decide)).mix)) (cwV 0 C.1.2.2.2.2 (gV qw_337 qw_338 qw_339 qw_73 qw_340) rfl rfl rfl (by decide +kernel) ⟨Nat.le_of_ble_eq_true rfl, Nat.le_of_ble_eq_true rfl⟩) (g_rMix C hW_115 hS_113 (ves_lad (G := G) hp (by decide)).mix []) rfl rfl hl_117.1 rfl (lv_room (Nat.le_of_ble_eq_true rfl)) dX4_passOneMinute_53 ⟨Nat.zero_le _, Nat.zero_le _⟩) hS_113 (fun r_119 Y_120 H_121 locs_122 hW_123 hS_124 h_118 => ?_)
      obtain ⟨h_118, hy_125⟩ := h_118
      replace hy_125 := hy_125.symm
      subst hy_125
      replace h_118 := h_118.trans (congrArg (fun Z9 => sumW Z9 (27 + 5 * 2)) rd_out)
      subst h_118
      refine lv_if_le (tgt := 70) hx hb dX4_passOneMinute_56 (by decide) (fun b_126 => ?_) (fun b_126 => ?_)
      · refine lv_iinc (v := 3) (lv' := [(1, .int 3), (0, .ref (ad G (65 * n + 0)))]) hx hb dX4_passOneMinute_70 hl_117 (k := 0) rfl (by decide) (by decide) rfl (fun ls_127 hl_128 => ?_)
        refine lv_goto (tgt := 39) hx hb dX4_passOneMinute_73 (by decide) ?_
        refine lv_iload_n hx hb dX4_passOneMinute_39 rfl (lv_at hl_128 0 rfl) ?_
        refine lv_iconst (v := 3) hx hb dX4_passOneMinute_40 (by decide) ?_
        refine lv_icmp_ge (tgt := 76) hx hb dX4_passOneMinute_41 (by decide) (fun _ => ?_) (fun h9 => absurd h9 (by decide))
        exact g_vret C hr hlk hW_123 hS_124 dX4_passOneMinute_76 (by simp only [minuteR, furR, ← ew_5, ← ew_23, ← ew_41, ← ew_59, ← ew_114, (show ladR w_59 0 = w_59 from if_pos b_73), (show ladR w_59 1 = w_114 from (if_neg b_84).trans ew_114.symm), (show ladR w_114 2 = w_114 from if_pos b_126)])
      · refine lv_aload_n hx hb dX4_passOneMinute_59 rfl (lv_at hl_117 1 rfl) ?_
        refine gP_ladles C hW_123 hp (hwc hwX4) (mc qw_159) dX4_passOneMinute_60 ?_
        refine lv_iload_n hx hb dX4_passOneMinute_63 rfl (lv_at hl_117 0 rfl) ?_
        refine g_lad C hW_123 hp 2 (by decide) (vlit (by decide)) dX4_passOneMinute_64 ?_
        refine lv_bipush (v := (-10)) hx hb dX4_passOneMinute_65 (by decide) ?_
        refine g_callv (va_runV (As := [.int (-10)]) (rest := []) C.1 (cX6_warm_ok l G (setRow X n w_114) (65 * n + (20 + 3 * 2)) (65 * n + (21 + 3 * 2)) (65 * n + (22 + 3 * 2)) n (27 + 5 * 2) 0 (ves_lad (G := G) hp (by decide)) (-10)) (cwV 1 C.1.2.2.2.2 (gV qw_904 qw_905 qw_906 qw_74 qw_907) rfl rfl rfl (by decide +kernel) ⟨Nat.le_of_ble_eq_true rfl, Nat.le_of_ble_eq_true rfl⟩) (g_rVes C hW_123 hS_124 (ves_lad (G := G) hp (by decide)) [.int (-10)]) rfl rfl hl_117.1 rfl (lv_room (Nat.le_of_ble_eq_true rfl)) dX4_passOneMinute_67 ⟨Nat.zero_le _, Nat.zero_le _⟩) hS_124 (fun Y_130 H_131 locs_132 hW_133 hS_134 h_129 => ?_)
        obtain ⟨w_135, ew_135⟩ : ∃ Z9, Z9 = upd w_114 (27 + 5 * 2 + 4) (lim (w_114 (27 + 5 * 2 + 4) + (-10))) := ⟨_, rfl⟩
        have hW_136 : Wd G (setRow X n w_135) H_131 := Wd.cast (by rw [h_129, ew_135]; exact ((congrArg (fun Z9 => setRow (setRow X n w_114) n (upd Z9 (27 + 5 * 2 + 4) (lim (Z9 (27 + 5 * 2 + 4) + (-10))))) rd_out).trans sr_out)) hW_133
        refine lv_iinc (v := 3) (lv' := [(1, .int 3), (0, .ref (ad G (65 * n + 0)))]) hx hb dX4_passOneMinute_70 hl_117 (k := 0) rfl (by decide) (by decide) rfl (fun ls_137 hl_138 => ?_)
        refine lv_goto (tgt := 39) hx hb dX4_passOneMinute_73 (by decide) ?_
        refine lv_iload_n hx hb dX4_passOneMinute_39 rfl (lv_at hl_138 0 rfl) ?_
        refine lv_iconst (v := 3) hx hb dX4_passOneMinute_40 (by decide) ?_
        refine lv_icmp_ge (tgt := 76) hx hb dX4_passOneMinute_41 (by decide) (fun _ => ?_) (fun h9 => absurd h9 (by decide))
        exact g_vret C hr hlk hW_136 hS_134 dX4_passOneMinute_76 (by simp only [minuteR, furR, ← ew_5, ← ew_23, ← ew_41, ← ew_59, ← ew_114, ← ew_135, (show ladR w_59 0 = w_59 from if_pos b_73), (show ladR w_59 1 = w_114 from (if_neg b_84).trans ew_114.symm), (show ladR w_114 2 = w_135 from (if_neg b_126).trans ew_135.symm)])
  · refine lv_aload_n hx hb dX4_passOneMinute_59 rfl (lv_at hl_64 1 rfl) ?_
    refine gP_ladles C hW_70 hp (hwc hwX4) (mc qw_159) dX4_passOneMinute_60 ?_
    refine lv_iload_n hx hb dX4_passOneMinute_63 rfl (lv_at hl_64 0 rfl) ?_
    refine g_lad C hW_70 hp 0 (by decide) (vlit (by decide)) dX4_passOneMinute_64 ?_
    refine lv_bipush (v := (-10)) hx hb dX4_passOneMinute_65 (by decide) ?_
    refine g_callv (va_runV (As := [.int (-10)]) (rest := []) C.1 (cX6_warm_ok l G (setRow X n w_59) (65 * n + (20 + 3 * 0)) (65 * n + (21 + 3 * 0)) (65 * n + (22 + 3 * 0)) n (27 + 5 * 0) 0 (ves_lad (G := G) hp (by decide)) (-10)) (cwV 1 C.1.2.2.2.2 (gV qw_904 qw_905 qw_906 qw_74 qw_907) rfl rfl rfl (by decide +kernel) ⟨Nat.le_of_ble_eq_true rfl, Nat.le_of_ble_eq_true rfl⟩) (g_rVes C hW_70 hS_71 (ves_lad (G := G) hp (by decide)) [.int (-10)]) rfl rfl hl_64.1 rfl (lv_room (Nat.le_of_ble_eq_true rfl)) dX4_passOneMinute_67 ⟨Nat.zero_le _, Nat.zero_le _⟩) hS_71 (fun Y_140 H_141 locs_142 hW_143 hS_144 h_139 => ?_)
    obtain ⟨w_145, ew_145⟩ : ∃ Z9, Z9 = upd w_59 (27 + 5 * 0 + 4) (lim (w_59 (27 + 5 * 0 + 4) + (-10))) := ⟨_, rfl⟩
    have hW_146 : Wd G (setRow X n w_145) H_141 := Wd.cast (by rw [h_139, ew_145]; exact ((congrArg (fun Z9 => setRow (setRow X n w_59) n (upd Z9 (27 + 5 * 0 + 4) (lim (Z9 (27 + 5 * 0 + 4) + (-10))))) rd_out).trans sr_out)) hW_143
    refine lv_iinc (v := 1) (lv' := [(1, .int 1), (0, .ref (ad G (65 * n + 0)))]) hx hb dX4_passOneMinute_70 hl_64 (k := 0) rfl (by decide) (by decide) rfl (fun ls_147 hl_148 => ?_)
    refine lv_goto (tgt := 39) hx hb dX4_passOneMinute_73 (by decide) ?_
    refine lv_iload_n hx hb dX4_passOneMinute_39 rfl (lv_at hl_148 0 rfl) ?_
    refine lv_iconst (v := 3) hx hb dX4_passOneMinute_40 (by decide) ?_
    refine lv_icmp_ge (tgt := 76) hx hb dX4_passOneMinute_41 (by decide) (fun h9 => absurd h9 (by decide)) (fun _ => ?_)
    refine lv_aload_n hx hb dX4_passOneMinute_44 rfl (lv_at hl_148 1 rfl) ?_
    refine gP_ladles C hW_146 hp (hwc hwX4) (mc qw_159) dX4_passOneMinute_45 ?_
    refine lv_iload_n hx hb dX4_passOneMinute_48 rfl (lv_at hl_148 0 rfl) ?_
    refine g_lad C hW_146 hp 1 (by decide) (vlit (by decide)) dX4_passOneMinute_49 ?_
    refine g_contentN C hW_146 (ves_lad (G := G) hp (by decide)) (hwc hwX6) nw_20 dX4_passOneMinute_50 ?_
    refine g_calli (va_runV (As := []) (rest := []) C.1 (cX3_sum_ok l G (setRow X n w_145) (65 * n + (21 + 3 * 1)) (65 * n + (22 + 3 * 1)) n (27 + 5 * 1) ((ves_lad (G := G) hp (by decide)).mix)) (cwV 0 C.1.2.2.2.2 (gV qw_337 qw_338 qw_339 qw_73 qw_340) rfl rfl rfl (by decide +kernel) ⟨Nat.le_of_ble_eq_true rfl, Nat.le_of_ble_eq_true rfl⟩) (g_rMix C hW_146 hS_144 (ves_lad (G := G) hp (by decide)).mix []) rfl rfl hl_148.1 rfl (lv_room (Nat.le_of_ble_eq_true rfl)) dX4_passOneMinute_53 ⟨Nat.zero_le _, Nat.zero_le _⟩) hS_144 (fun r_150 Y_151 H_152 locs_153 hW_154 hS_155 h_149 => ?_)
    obtain ⟨h_149, hy_156⟩ := h_149
    replace hy_156 := hy_156.symm
    subst hy_156
    replace h_149 := h_149.trans (congrArg (fun Z9 => sumW Z9 (27 + 5 * 1)) rd_out)
    subst h_149
    refine lv_if_le (tgt := 70) hx hb dX4_passOneMinute_56 (by decide) (fun b_157 => ?_) (fun b_157 => ?_)
    · refine lv_iinc (v := 2) (lv' := [(1, .int 2), (0, .ref (ad G (65 * n + 0)))]) hx hb dX4_passOneMinute_70 hl_148 (k := 0) rfl (by decide) (by decide) rfl (fun ls_158 hl_159 => ?_)
      refine lv_goto (tgt := 39) hx hb dX4_passOneMinute_73 (by decide) ?_
      refine lv_iload_n hx hb dX4_passOneMinute_39 rfl (lv_at hl_159 0 rfl) ?_
      refine lv_iconst (v := 3) hx hb dX4_passOneMinute_40 (by decide) ?_
      refine lv_icmp_ge (tgt := 76) hx hb dX4_passOneMinute_41 (by decide) (fun h9 => absurd h9 (by decide)) (fun _ => ?_)
      refine lv_aload_n hx hb dX4_passOneMinute_44 rfl (lv_at hl_159 1 rfl) ?_
      refine gP_ladles C hW_154 hp (hwc hwX4) (mc qw_159) dX4_passOneMinute_45 ?_
      refine lv_iload_n hx hb dX4_passOneMinute_48 rfl (lv_at hl_159 0 rfl) ?_
      refine g_lad C hW_154 hp 2 (by decide) (vlit (by decide)) dX4_passOneMinute_49 ?_
      refine g_contentN C hW_154 (ves_lad (G := G) hp (by decide)) (hwc hwX6) nw_20 dX4_passOneMinute_50 ?_
      refine g_calli (va_runV (As := []) (rest := []) C.1 (cX3_sum_ok l G (setRow X n w_145) (65 * n + (21 + 3 * 2)) (65 * n + (22 + 3 * 2)) n (27 + 5 * 2) ((ves_lad (G := G) hp (by decide)).mix)) (cwV 0 C.1.2.2.2.2 (gV qw_337 qw_338 qw_339 qw_73 qw_340) rfl rfl rfl (by decide +kernel) ⟨Nat.le_of_ble_eq_true rfl, Nat.le_of_ble_eq_true rfl⟩) (g_rMix C hW_154 hS_155 (ves_lad (G := G) hp (by decide)).mix []) rfl rfl hl_159.1 rfl (lv_room (Nat.le_of_ble_eq_true rfl)) dX4_passOneMinute_53 ⟨Nat.zero_le _, Nat.zero_le _⟩) hS_155 (fun r_161 Y_162 H_163 locs_164 hW_165 hS_166 h_160 => ?_)
      obtain ⟨h_160, hy_167⟩ := h_160
      replace hy_167 := hy_167.symm
      subst hy_167
      replace h_160 := h_160.trans (congrArg (fun Z9 => sumW Z9 (27 + 5 * 2)) rd_out)
      subst h_160
      refine lv_if_le (tgt := 70) hx hb dX4_passOneMinute_56 (by decide) (fun b_168 => ?_) (fun b_168 => ?_)
      · refine lv_iinc (v := 3) (lv' := [(1, .int 3), (0, .ref (ad G (65 * n + 0)))]) hx hb dX4_passOneMinute_70 hl_159 (k := 0) rfl (by decide) (by decide) rfl (fun ls_169 hl_170 => ?_)
        refine lv_goto (tgt := 39) hx hb dX4_passOneMinute_73 (by decide) ?_
        refine lv_iload_n hx hb dX4_passOneMinute_39 rfl (lv_at hl_170 0 rfl) ?_
        refine lv_iconst (v := 3) hx hb dX4_passOneMinute_40 (by decide) ?_
        refine lv_icmp_ge (tgt := 76) hx hb dX4_passOneMinute_41 (by decide) (fun _ => ?_) (fun h9 => absurd h9 (by decide))
        exact g_vret C hr hlk hW_165 hS_166 dX4_passOneMinute_76 (by simp only [minuteR, furR, ← ew_5, ← ew_23, ← ew_41, ← ew_59, ← ew_145, (show ladR w_59 0 = w_145 from (if_neg b_73).trans ew_145.symm), (show ladR w_145 1 = w_145 from if_pos b_157), (show ladR w_145 2 = w_145 from if_pos b_168)])
      · refine lv_aload_n hx hb dX4_passOneMinute_59 rfl (lv_at hl_159 1 rfl) ?_
        refine gP_ladles C hW_165 hp (hwc hwX4) (mc qw_159) dX4_passOneMinute_60 ?_
        refine lv_iload_n hx hb dX4_passOneMinute_63 rfl (lv_at hl_159 0 rfl) ?_
        refine g_lad C hW_165 hp 2 (by decide) (vlit (by decide)) dX4_passOneMinute_64 ?_
        refine lv_bipush (v := (-10)) hx hb dX4_passOneMinute_65 (by decide) ?_
        refine g_callv (va_runV (As := [.int (-10)]) (rest := []) C.1 (cX6_warm_ok l G (setRow X n w_145) (65 * n + (20 + 3 * 2)) (65 * n + (21 + 3 * 2)) (65 * n + (22 + 3 * 2)) n (27 + 5 * 2) 0 (ves_lad (G := G) hp (by decide)) (-10)) (cwV 1 C.1.2.2.2.2 (gV qw_904 qw_905 qw_906 qw_74 qw_907) rfl rfl rfl (by decide +kernel) ⟨Nat.le_of_ble_eq_true rfl, Nat.le_of_ble_eq_true rfl⟩) (g_rVes C hW_165 hS_166 (ves_lad (G := G) hp (by decide)) [.int (-10)]) rfl rfl hl_159.1 rfl (lv_room (Nat.le_of_ble_eq_true rfl)) dX4_passOneMinute_67 ⟨Nat.zero_le _, Nat.zero_le _⟩) hS_166 (fun Y_172 H_173 locs_174 hW_175 hS_176 h_171 => ?_)
        obtain ⟨w_177, ew_177⟩ : ∃ Z9, Z9 = upd w_145 (27 + 5 * 2 + 4) (lim (w_145 (27 + 5 * 2 + 4) + (-10))) := ⟨_, rfl⟩
        have hW_178 : Wd G (setRow X n w_177) H_173 := Wd.cast (by rw [h_171, ew_177]; exact ((congrArg (fun Z9 => setRow (setRow X n w_145) n (upd Z9 (27 + 5 * 2 + 4) (lim (Z9 (27 + 5 * 2 + 4) + (-10))))) rd_out).trans sr_out)) hW_175
        refine lv_iinc (v := 3) (lv' := [(1, .int 3), (0, .ref (ad G (65 * n + 0)))]) hx hb dX4_passOneMinute_70 hl_159 (k := 0) rfl (by decide) (by decide) rfl (fun ls_179 hl_180 => ?_)
        refine lv_goto (tgt := 39) hx hb dX4_passOneMinute_73 (by decide) ?_
        refine lv_iload_n hx hb dX4_passOneMinute_39 rfl (lv_at hl_180 0 rfl) ?_
        refine lv_iconst (v := 3) hx hb dX4_passOneMinute_40 (by decide) ?_
        refine lv_icmp_ge (tgt := 76) hx hb dX4_passOneMinute_41 (by decide) (fun _ => ?_) (fun h9 => absurd h9 (by decide))
        exact g_vret C hr hlk hW_178 hS_176 dX4_passOneMinute_76 (by simp only [minuteR, furR, ← ew_5, ← ew_23, ← ew_41, ← ew_59, ← ew_145, ← ew_177, (show ladR w_59 0 = w_145 from (if_neg b_73).trans ew_145.symm), (show ladR w_145 1 = w_145 from if_pos b_157), (show ladR w_145 2 = w_177 from (if_neg b_168).trans ew_177.symm)])
    · refine lv_aload_n hx hb dX4_passOneMinute_59 rfl (lv_at hl_148 1 rfl) ?_
      refine gP_ladles C hW_154 hp (hwc hwX4) (mc qw_159) dX4_passOneMinute_60 ?_
      refine lv_iload_n hx hb dX4_passOneMinute_63 rfl (lv_at hl_148 0 rfl) ?_
      refine g_lad C hW_154 hp 1 (by decide) (vlit (by decide)) dX4_passOneMinute_64 ?_
      refine lv_bipush (v := (-10)) hx hb dX4_passOneMinute_65 (by decide) ?_
      refine g_callv (va_runV (As := [.int (-10)]) (rest := []) C.1 (cX6_warm_ok l G (setRow X n w_145) (65 * n + (20 + 3 * 1)) (65 * n + (21 + 3 * 1)) (65 * n + (22 + 3 * 1)) n (27 + 5 * 1) 0 (ves_lad (G := G) hp (by decide)) (-10)) (cwV 1 C.1.2.2.2.2 (gV qw_904 qw_905 qw_906 qw_74 qw_907) rfl rfl rfl (by decide +kernel) ⟨Nat.le_of_ble_eq_true rfl, Nat.le_of_ble_eq_true rfl⟩) (g_rVes C hW_154 hS_155 (ves_lad (G := G) hp (by decide)) [.int (-10)]) rfl rfl hl_148.1 rfl (lv_room (Nat.le_of_ble_eq_true rfl)) dX4_passOneMinute_67 ⟨Nat.zero_le _, Nat.zero_le _⟩) hS_155 (fun Y_182 H_183 locs_184 hW_185 hS_186 h_181 => ?_)
      obtain ⟨w_187, ew_187⟩ : ∃ Z9, Z9 = upd w_145 (27 + 5 * 1 + 4) (lim (w_145 (27 + 5 * 1 + 4) + (-10))) := ⟨_, rfl⟩
      have hW_188 : Wd G (setRow X n w_187) H_183 := Wd.cast (by rw [h_181, ew_187]; exact ((congrArg (fun Z9 => setRow (setRow X n w_145) n (upd Z9 (27 + 5 * 1 + 4) (lim (Z9 (27 + 5 * 1 + 4) + (-10))))) rd_out).trans sr_out)) hW_185
      refine lv_iinc (v := 2) (lv' := [(1, .int 2), (0, .ref (ad G (65 * n + 0)))]) hx hb dX4_passOneMinute_70 hl_148 (k := 0) rfl (by decide) (by decide) rfl (fun ls_189 hl_190 => ?_)
      refine lv_goto (tgt := 39) hx hb dX4_passOneMinute_73 (by decide) ?_
      refine lv_iload_n hx hb dX4_passOneMinute_39 rfl (lv_at hl_190 0 rfl) ?_
      refine lv_iconst (v := 3) hx hb dX4_passOneMinute_40 (by decide) ?_
      refine lv_icmp_ge (tgt := 76) hx hb dX4_passOneMinute_41 (by decide) (fun h9 => absurd h9 (by decide)) (fun _ => ?_)
      refine lv_aload_n hx hb dX4_passOneMinute_44 rfl (lv_at hl_190 1 rfl) ?_
      refine gP_ladles C hW_188 hp (hwc hwX4) (mc qw_159) dX4_passOneMinute_45 ?_
      refine lv_iload_n hx hb dX4_passOneMinute_48 rfl (lv_at hl_190 0 rfl) ?_
      refine g_lad C hW_188 hp 2 (by decide) (vlit (by decide)) dX4_passOneMinute_49 ?_
      refine g_contentN C hW_188 (ves_lad (G := G) hp (by decide)) (hwc hwX6) nw_20 dX4_passOneMinute_50 ?_
      refine g_calli (va_runV (As := []) (rest := []) C.1 (cX3_sum_ok l G (setRow X n w_187) (65 * n + (21 + 3 * 2)) (65 * n + (22 + 3 * 2)) n (27 + 5 * 2) ((ves_lad (G := G) hp (by decide)).mix)) (cwV 0 C.1.2.2.2.2 (gV qw_337 qw_338 qw_339 qw_73 qw_340) rfl rfl rfl (by decide +kernel) ⟨Nat.le_of_ble_eq_true rfl, Nat.le_of_ble_eq_true rfl⟩) (g_rMix C hW_188 hS_186 (ves_lad (G := G) hp (by decide)).mix []) rfl rfl hl_190.1 rfl (lv_room (Nat.le_of_ble_eq_true rfl)) dX4_passOneMinute_53 ⟨Nat.zero_le _, Nat.zero_le _⟩) hS_186 (fun r_192 Y_193 H_194 locs_195 hW_196 hS_197 h_191 => ?_)
      obtain ⟨h_191, hy_198⟩ := h_191
      replace hy_198 := hy_198.symm
      subst hy_198
      replace h_191 := h_191.trans (congrArg (fun Z9 => sumW Z9 (27 + 5 * 2)) rd_out)
      subst h_191
      refine lv_if_le (tgt := 70) hx hb dX4_passOneMinute_56 (by decide) (fun b_199 => ?_) (fun b_199 => ?_)
      · refine lv_iinc (v := 3) (lv' := [(1, .int 3), (0, .ref (ad G (65 * n + 0)))]) hx hb dX4_passOneMinute_70 hl_190 (k := 0) rfl (by decide) (by decide) rfl (fun ls_200 hl_201 => ?_)
        refine lv_goto (tgt := 39) hx hb dX4_passOneMinute_73 (by decide) ?_
        refine lv_iload_n hx hb dX4_passOneMinute_39 rfl (lv_at hl_201 0 rfl) ?_
        refine lv_iconst (v := 3) hx hb dX4_passOneMinute_40 (by decide) ?_
        refine lv_icmp_ge (tgt := 76) hx hb dX4_passOneMinute_41 (by decide) (fun _ => ?_) (fun h9 => absurd h9 (by decide))
        exact g_vret C hr hlk hW_196 hS_197 dX4_passOneMinute_76 (by simp only [minuteR, furR, ← ew_5, ← ew_23, ← ew_41, ← ew_59, ← ew_145, ← ew_187, (show ladR w_59 0 = w_145 from (if_neg b_73).trans ew_145.symm), (show ladR w_145 1 = w_187 from (if_neg b_157).trans ew_187.symm), (show ladR w_187 2 = w_187 from if_pos b_199)])
      · refine lv_aload_n hx hb dX4_passOneMinute_59 rfl (lv_at hl_190 1 rfl) ?_
        refine gP_ladles C hW_196 hp (hwc hwX4) (mc qw_159) dX4_passOneMinute_60 ?_
        refine lv_iload_n hx hb dX4_passOneMinute_63 rfl (lv_at hl_190 0 rfl) ?_
        refine g_lad C hW_196 hp 2 (by decide) (vlit (by decide)) dX4_passOneMinute_64 ?_
        refine lv_bipush (v := (-10)) hx hb dX4_passOneMinute_65 (by decide) ?_
        refine g_callv (va_runV (As := [.int (-10)]) (rest := []) C.1 (cX6_warm_ok l G (setRow X n w_187) (65 * n + (20 + 3 * 2)) (65 * n + (21 + 3 * 2)) (65 * n + (22 + 3 * 2)) n (27 + 5 * 2) 0 (ves_lad (G := G) hp (by decide)) (-10)) (cwV 1 C.1.2.2.2.2 (gV qw_904 qw_905 qw_906 qw_74 qw_907) rfl rfl rfl (by decide +kernel) ⟨Nat.le_of_ble_eq_true rfl, Nat.le_of_ble_eq_true rfl⟩) (g_rVes C hW_196 hS_197 (ves_lad (G := G) hp (by decide)) [.int (-10)]) rfl rfl hl_190.1 rfl (lv_room (Nat.le_of_ble_eq_true rfl)) dX4_passOneMinute_67 ⟨Nat.zero_le _, Nat.zero_le _⟩) hS_197 (fun Y_203 H_204 locs_205 hW_206 hS_207 h_202 => ?_)
        obtain ⟨w_208, ew_208⟩ : ∃ Z9, Z9 = upd w_187 (27 + 5 * 2 + 4) (lim (w_187 (27 + 5 * 2 + 4) + (-10))) := ⟨_, rfl⟩
        have hW_209 : Wd G (setRow X n w_208) H_204 := Wd.cast (by rw [h_202, ew_208]; exact ((congrArg (fun Z9 => setRow (setRow X n w_187) n (upd Z9 (27 + 5 * 2 + 4) (lim (Z9 (27 + 5 * 2 + 4) + (-10))))) rd_out).trans sr_out)) hW_206
        refine lv_iinc (v := 3) (lv' := [(1, .int 3), (0, .ref (ad G (65 * n + 0)))]) hx hb dX4_passOneMinute_70 hl_190 (k := 0) rfl (by decide) (by decide) rfl (fun ls_210 hl_211 => ?_)
        refine lv_goto (tgt := 39) hx hb dX4_passOneMinute_73 (by decide) ?_
        refine lv_iload_n hx hb dX4_passOneMinute_39 rfl (lv_at hl_211 0 rfl) ?_
        refine lv_iconst (v := 3) hx hb dX4_passOneMinute_40 (by decide) ?_
        refine lv_icmp_ge (tgt := 76) hx hb dX4_passOneMinute_41 (by decide) (fun _ => ?_) (fun h9 => absurd h9 (by decide))
        exact g_vret C hr hlk hW_209 hS_207 dX4_passOneMinute_76 (by simp only [minuteR, furR, ← ew_5, ← ew_23, ← ew_41, ← ew_59, ← ew_145, ← ew_187, ← ew_208, (show ladR w_59 0 = w_145 from (if_neg b_73).trans ew_145.symm), (show ladR w_145 1 = w_187 from (if_neg b_157).trans ew_187.symm), (show ladR w_187 2 = w_208 from (if_neg b_199).trans ew_208.symm)])

set_option maxHeartbeats 4000000 in
set_option maxRecDepth 100000 in
theorem cX4_pass_ok (l : Launch) (G : GT) (X : St) (n : Nat) (hp : n < 11) (x : Int32) : MetI l G yX4_pass (wsG yX4_pass cX4_pass 4 (some .int)) (rmz 3 62) [.ref (ad G (65 * n + 0)), .int x] X (fun res Y => res = (passR (X.1 n) x).1 ∧ Y = setRow X n (passR (X.1 n) x).2) := by
  refine g_met (cc := cX4_pass) (maxL := 4) (ret := (some .int)) (by decide) rfl (Nat.le_of_ble_eq_true rfl) ?_
  intro p e s m below meth c ls C hr hlk hnm hW hl
  have hx := C.1.1
  have hb := C.1.2.1
  have hS : va_S (Ab G) s.heap s.heap [] := va_S.rf
  have hl : lv_has ls 4 [(0, .ref (ad G (65 * n + 0))), (1, .int x)] := hl
  refine lv_iload_n hx hb dX4_pass_0 rfl (lv_at hl 1 rfl) ?_
  refine lv_iconst (v := 1) hx hb dX4_pass_1 (by decide) ?_
  refine lv_icmp_lt (tgt := 12) hx hb dX4_pass_2 (by decide) (fun b_1 => ?_) (fun b_1 => ?_)
  · refine lv_bipush (v := (-2)) hx hb dX4_pass_12 (by decide) ?_
    exact g_iret C hr hlk hW hS dX4_pass_14 (by exact ⟨by simp only [passR, b_1, if_true, if_false], by simp only [passR, b_1, if_true, if_false, sr_self]⟩)
  · refine lv_iload_n hx hb dX4_pass_5 rfl (lv_at hl 1 rfl) ?_
    refine lv_sipush (v := 200) hx hb dX4_pass_6 (by decide) ?_
    refine lv_icmp_le (tgt := 15) hx hb dX4_pass_9 (by decide) (fun b_2 => ?_) (fun b_2 => ?_)
    · obtain ⟨dd, hd1, hd2, rfl⟩ := nI_1_200 b_1 b_2
      refine lv_iconst (v := 0) hx hb dX4_pass_15 (by decide) ?_
      refine lv_istore_n (lv' := [(2, .int 0), (0, .ref (ad G (65 * n + 0))), (1, .int (nI dd))]) hx hb dX4_pass_16 rfl hl (by decide) rfl (fun ls_3 hl_4 => ?_)
      have loop : ∀ (q : Nat) (kk : Nat) (zz : Nat → Int32) (H : Heap) (locs : List Loc) (ls : Array Slot), kk + q = dd → itM q zz = itM dd (X.1 n) → Wd G (setRow X n zz) H → va_S (Ab G) s.heap H locs → lv_has ls 4 [(2, .int (nI kk)), (0, .ref (ad G (65 * n + 0))), (1, .int (nI dd))] → W p l e (rmz 3 62) s m ([.ref (ad G (65 * n + 0)), .int (nI dd)] : List Value).toArray below meth c H locs 0 0 (MQ below (Ki G (fun res Y => res = (passR (X.1 n) (nI dd)).1 ∧ Y = setRow X n (passR (X.1 n) (nI dd)).2)) ([.ref (ad G (65 * n + 0)), .int (nI dd)] : List Value).toArray s 0 0 (Ab G)) (F0 m 17 ls []) := by
        intro q
        induction q with
        | zero =>
          intro kk zz H locs ls hq hf hW hS hl
          have hz : zz = itM dd (X.1 n) := hf
          clear hf
          refine lv_iload_n hx hb dX4_pass_17 rfl (lv_at hl 0 rfl) ?_
          refine lv_iload_n hx hb dX4_pass_18 rfl (lv_at hl 2 rfl) ?_
          refine lv_icmp_ge (tgt := 32) hx hb dX4_pass_19 (by decide) (fun _ => ?_) (fun h9 => absurd (nI_le (by omega) (by omega)) h9)
          refine lv_iconst (v := 0) hx hb dX4_pass_32 (by decide) ?_
          refine lv_istore_n (lv' := [(2, .int 0), (0, .ref (ad G (65 * n + 0))), (1, .int (nI dd))]) hx hb dX4_pass_33 rfl hl (by decide) rfl (fun ls_5 hl_6 => ?_)
          refine lv_iconst (v := 0) hx hb dX4_pass_34 (by decide) ?_
          refine lv_istore_n (lv' := [(3, .int 0), (2, .int 0), (0, .ref (ad G (65 * n + 0))), (1, .int (nI dd))]) hx hb dX4_pass_35 rfl hl_6 (by decide) rfl (fun ls_7 hl_8 => ?_)
          refine lv_iload_n hx hb dX4_pass_36 rfl (lv_at hl_8 0 rfl) ?_
          refine lv_iconst (v := 3) hx hb dX4_pass_37 (by decide) ?_
          refine lv_icmp_ge (tgt := 67) hx hb dX4_pass_38 (by decide) (fun h9 => absurd h9 (by decide)) (fun _ => ?_)
          refine lv_iload_n hx hb dX4_pass_41 rfl (lv_at hl_8 1 rfl) ?_
          refine lv_aload_n hx hb dX4_pass_42 rfl (lv_at hl_8 2 rfl) ?_
          refine gP_furnaces C hW hp (hwc hwX4) (mc qw_155) dX4_pass_43 ?_
          refine lv_iload_n hx hb dX4_pass_46 rfl (lv_at hl_8 0 rfl) ?_
          refine g_fur C hW hp 0 (by decide) (vlit (by decide)) dX4_pass_47 ?_
          refine g_calli (va_runV (As := []) (rest := [.int 0]) C.1 (cX6_liquid_ok l G (setRow X n zz) (65 * n + (11 + 3 * 0)) (65 * n + (12 + 3 * 0)) (65 * n + (13 + 3 * 0)) n (9 + 6 * 0) 10 (ves_fur (G := G) hp (by decide))) (cwV 0 C.1.2.2.2.2 (gV qw_355 qw_356 qw_357 qw_74 qw_358) rfl rfl rfl (by decide +kernel) ⟨Nat.le_of_ble_eq_true rfl, Nat.le_of_ble_eq_true rfl⟩) (g_rVes C hW hS (ves_fur (G := G) hp (by decide)) []) rfl rfl hl_8.1 rfl (lv_room (Nat.le_of_ble_eq_true rfl)) dX4_pass_48 ⟨Nat.zero_le _, Nat.zero_le _⟩) hS (fun r_10 Y_11 H_12 locs_13 hW_14 hS_15 h_9 => ?_)
          obtain ⟨h_9, hy_16⟩ := h_9
          replace hy_16 := hy_16.symm
          subst hy_16
          replace h_9 := h_9.trans (congrArg (fun Z9 => liqW Z9 (9 + 6 * 0)) rd_out)
          subst h_9
          refine lv_if_eq (tgt := 58) hx hb dX4_pass_51 (by decide) (fun b_17 => ?_) (fun b_17 => ?_)
          · refine lv_iconst (v := 0) hx hb dX4_pass_58 (by decide) ?_
            refine lv_iadd hx hb dX4_pass_59 ?_
            refine g_top (y := 0) (by decide) ?_
            refine lv_istore_n (lv' := [(2, .int 0), (3, .int 0), (0, .ref (ad G (65 * n + 0))), (1, .int (nI dd))]) hx hb dX4_pass_60 rfl hl_8 (by decide) rfl (fun ls_18 hl_19 => ?_)
            refine lv_iinc (v := 1) (lv' := [(3, .int 1), (2, .int 0), (0, .ref (ad G (65 * n + 0))), (1, .int (nI dd))]) hx hb dX4_pass_61 hl_19 (k := 1) rfl (by decide) (by decide) rfl (fun ls_20 hl_21 => ?_)
            refine lv_goto (tgt := 36) hx hb dX4_pass_64 (by decide) ?_
            refine lv_iload_n hx hb dX4_pass_36 rfl (lv_at hl_21 0 rfl) ?_
            refine lv_iconst (v := 3) hx hb dX4_pass_37 (by decide) ?_
            refine lv_icmp_ge (tgt := 67) hx hb dX4_pass_38 (by decide) (fun h9 => absurd h9 (by decide)) (fun _ => ?_)
            refine lv_iload_n hx hb dX4_pass_41 rfl (lv_at hl_21 1 rfl) ?_
            refine lv_aload_n hx hb dX4_pass_42 rfl (lv_at hl_21 2 rfl) ?_
            refine gP_furnaces C hW_14 hp (hwc hwX4) (mc qw_155) dX4_pass_43 ?_
            refine lv_iload_n hx hb dX4_pass_46 rfl (lv_at hl_21 0 rfl) ?_
            refine g_fur C hW_14 hp 1 (by decide) (vlit (by decide)) dX4_pass_47 ?_
            refine g_calli (va_runV (As := []) (rest := [.int 0]) C.1 (cX6_liquid_ok l G (setRow X n zz) (65 * n + (11 + 3 * 1)) (65 * n + (12 + 3 * 1)) (65 * n + (13 + 3 * 1)) n (9 + 6 * 1) 10 (ves_fur (G := G) hp (by decide))) (cwV 0 C.1.2.2.2.2 (gV qw_355 qw_356 qw_357 qw_74 qw_358) rfl rfl rfl (by decide +kernel) ⟨Nat.le_of_ble_eq_true rfl, Nat.le_of_ble_eq_true rfl⟩) (g_rVes C hW_14 hS_15 (ves_fur (G := G) hp (by decide)) []) rfl rfl hl_21.1 rfl (lv_room (Nat.le_of_ble_eq_true rfl)) dX4_pass_48 ⟨Nat.zero_le _, Nat.zero_le _⟩) hS_15 (fun r_23 Y_24 H_25 locs_26 hW_27 hS_28 h_22 => ?_)
            obtain ⟨h_22, hy_29⟩ := h_22
            replace hy_29 := hy_29.symm
            subst hy_29
            replace h_22 := h_22.trans (congrArg (fun Z9 => liqW Z9 (9 + 6 * 1)) rd_out)
            subst h_22
            refine lv_if_eq (tgt := 58) hx hb dX4_pass_51 (by decide) (fun b_30 => ?_) (fun b_30 => ?_)
            · refine lv_iconst (v := 0) hx hb dX4_pass_58 (by decide) ?_
              refine lv_iadd hx hb dX4_pass_59 ?_
              refine g_top (y := 0) (by decide) ?_
              refine lv_istore_n (lv' := [(2, .int 0), (3, .int 1), (0, .ref (ad G (65 * n + 0))), (1, .int (nI dd))]) hx hb dX4_pass_60 rfl hl_21 (by decide) rfl (fun ls_31 hl_32 => ?_)
              refine lv_iinc (v := 2) (lv' := [(3, .int 2), (2, .int 0), (0, .ref (ad G (65 * n + 0))), (1, .int (nI dd))]) hx hb dX4_pass_61 hl_32 (k := 1) rfl (by decide) (by decide) rfl (fun ls_33 hl_34 => ?_)
              refine lv_goto (tgt := 36) hx hb dX4_pass_64 (by decide) ?_
              refine lv_iload_n hx hb dX4_pass_36 rfl (lv_at hl_34 0 rfl) ?_
              refine lv_iconst (v := 3) hx hb dX4_pass_37 (by decide) ?_
              refine lv_icmp_ge (tgt := 67) hx hb dX4_pass_38 (by decide) (fun h9 => absurd h9 (by decide)) (fun _ => ?_)
              refine lv_iload_n hx hb dX4_pass_41 rfl (lv_at hl_34 1 rfl) ?_
              refine lv_aload_n hx hb dX4_pass_42 rfl (lv_at hl_34 2 rfl) ?_
              refine gP_furnaces C hW_27 hp (hwc hwX4) (mc qw_155) dX4_pass_43 ?_
              refine lv_iload_n hx hb dX4_pass_46 rfl (lv_at hl_34 0 rfl) ?_
              refine g_fur C hW_27 hp 2 (by decide) (vlit (by decide)) dX4_pass_47 ?_
              refine g_calli (va_runV (As := []) (rest := [.int 0]) C.1 (cX6_liquid_ok l G (setRow X n zz) (65 * n + (11 + 3 * 2)) (65 * n + (12 + 3 * 2)) (65 * n + (13 + 3 * 2)) n (9 + 6 * 2) 10 (ves_fur (G := G) hp (by decide))) (cwV 0 C.1.2.2.2.2 (gV qw_355 qw_356 qw_357 qw_74 qw_358) rfl rfl rfl (by decide +kernel) ⟨Nat.le_of_ble_eq_true rfl, Nat.le_of_ble_eq_true rfl⟩) (g_rVes C hW_27 hS_28 (ves_fur (G := G) hp (by decide)) []) rfl rfl hl_34.1 rfl (lv_room (Nat.le_of_ble_eq_true rfl)) dX4_pass_48 ⟨Nat.zero_le _, Nat.zero_le _⟩) hS_28 (fun r_36 Y_37 H_38 locs_39 hW_40 hS_41 h_35 => ?_)
              obtain ⟨h_35, hy_42⟩ := h_35
              replace hy_42 := hy_42.symm
              subst hy_42
              replace h_35 := h_35.trans (congrArg (fun Z9 => liqW Z9 (9 + 6 * 2)) rd_out)
              subst h_35
              refine lv_if_eq (tgt := 58) hx hb dX4_pass_51 (by decide) (fun b_43 => ?_) (fun b_43 => ?_)
              · refine lv_iconst (v := 0) hx hb dX4_pass_58 (by decide) ?_
                refine lv_iadd hx hb dX4_pass_59 ?_
                refine g_top (y := 0) (by decide) ?_
                refine lv_istore_n (lv' := [(2, .int 0), (3, .int 2), (0, .ref (ad G (65 * n + 0))), (1, .int (nI dd))]) hx hb dX4_pass_60 rfl hl_34 (by decide) rfl (fun ls_44 hl_45 => ?_)
                refine lv_iinc (v := 3) (lv' := [(3, .int 3), (2, .int 0), (0, .ref (ad G (65 * n + 0))), (1, .int (nI dd))]) hx hb dX4_pass_61 hl_45 (k := 1) rfl (by decide) (by decide) rfl (fun ls_46 hl_47 => ?_)
                refine lv_goto (tgt := 36) hx hb dX4_pass_64 (by decide) ?_
                refine lv_iload_n hx hb dX4_pass_36 rfl (lv_at hl_47 0 rfl) ?_
                refine lv_iconst (v := 3) hx hb dX4_pass_37 (by decide) ?_
                refine lv_icmp_ge (tgt := 67) hx hb dX4_pass_38 (by decide) (fun _ => ?_) (fun h9 => absurd h9 (by decide))
                refine lv_iload_n hx hb dX4_pass_67 rfl (lv_at hl_47 1 rfl) ?_
                exact g_iret C hr hlk hW_40 hS_41 dX4_pass_68 (by subst hz; exact ⟨by simp only [passR, clf (show dd < 2 ^ 31 by omega), b_1, b_2, b_17, b_30, b_43, if_true, if_false, molW]; first | done | rfl | decide, by simp only [passR, clf (show dd < 2 ^ 31 by omega), b_1, b_2, b_17, b_30, b_43, if_true, if_false, sr_self]⟩)
              · refine lv_iconst (v := 1) hx hb dX4_pass_54 (by decide) ?_
                refine lv_goto (tgt := 59) hx hb dX4_pass_55 (by decide) ?_
                refine lv_iadd hx hb dX4_pass_59 ?_
                refine g_top (y := 1) (by decide) ?_
                refine lv_istore_n (lv' := [(2, .int 1), (3, .int 2), (0, .ref (ad G (65 * n + 0))), (1, .int (nI dd))]) hx hb dX4_pass_60 rfl hl_34 (by decide) rfl (fun ls_48 hl_49 => ?_)
                refine lv_iinc (v := 3) (lv' := [(3, .int 3), (2, .int 1), (0, .ref (ad G (65 * n + 0))), (1, .int (nI dd))]) hx hb dX4_pass_61 hl_49 (k := 1) rfl (by decide) (by decide) rfl (fun ls_50 hl_51 => ?_)
                refine lv_goto (tgt := 36) hx hb dX4_pass_64 (by decide) ?_
                refine lv_iload_n hx hb dX4_pass_36 rfl (lv_at hl_51 0 rfl) ?_
                refine lv_iconst (v := 3) hx hb dX4_pass_37 (by decide) ?_
                refine lv_icmp_ge (tgt := 67) hx hb dX4_pass_38 (by decide) (fun _ => ?_) (fun h9 => absurd h9 (by decide))
                refine lv_iload_n hx hb dX4_pass_67 rfl (lv_at hl_51 1 rfl) ?_
                exact g_iret C hr hlk hW_40 hS_41 dX4_pass_68 (by subst hz; exact ⟨by simp only [passR, clf (show dd < 2 ^ 31 by omega), b_1, b_2, b_17, b_30, b_43, if_true, if_false, molW]; first | done | rfl | decide, by simp only [passR, clf (show dd < 2 ^ 31 by omega), b_1, b_2, b_17, b_30, b_43, if_true, if_false, sr_self]⟩)
            · refine lv_iconst (v := 1) hx hb dX4_pass_54 (by decide) ?_
              refine lv_goto (tgt := 59) hx hb dX4_pass_55 (by decide) ?_
              refine lv_iadd hx hb dX4_pass_59 ?_
              refine g_top (y := 1) (by decide) ?_
              refine lv_istore_n (lv' := [(2, .int 1), (3, .int 1), (0, .ref (ad G (65 * n + 0))), (1, .int (nI dd))]) hx hb dX4_pass_60 rfl hl_21 (by decide) rfl (fun ls_52 hl_53 => ?_)
              refine lv_iinc (v := 2) (lv' := [(3, .int 2), (2, .int 1), (0, .ref (ad G (65 * n + 0))), (1, .int (nI dd))]) hx hb dX4_pass_61 hl_53 (k := 1) rfl (by decide) (by decide) rfl (fun ls_54 hl_55 => ?_)
              refine lv_goto (tgt := 36) hx hb dX4_pass_64 (by decide) ?_
              refine lv_iload_n hx hb dX4_pass_36 rfl (lv_at hl_55 0 rfl) ?_
              refine lv_iconst (v := 3) hx hb dX4_pass_37 (by decide) ?_
              refine lv_icmp_ge (tgt := 67) hx hb dX4_pass_38 (by decide) (fun h9 => absurd h9 (by decide)) (fun _ => ?_)
              refine lv_iload_n hx hb dX4_pass_41 rfl (lv_at hl_55 1 rfl) ?_
              refine lv_aload_n hx hb dX4_pass_42 rfl (lv_at hl_55 2 rfl) ?_
              refine gP_furnaces C hW_27 hp (hwc hwX4) (mc qw_155) dX4_pass_43 ?_
              refine lv_iload_n hx hb dX4_pass_46 rfl (lv_at hl_55 0 rfl) ?_
              refine g_fur C hW_27 hp 2 (by decide) (vlit (by decide)) dX4_pass_47 ?_
              refine g_calli (va_runV (As := []) (rest := [.int 1]) C.1 (cX6_liquid_ok l G (setRow X n zz) (65 * n + (11 + 3 * 2)) (65 * n + (12 + 3 * 2)) (65 * n + (13 + 3 * 2)) n (9 + 6 * 2) 10 (ves_fur (G := G) hp (by decide))) (cwV 0 C.1.2.2.2.2 (gV qw_355 qw_356 qw_357 qw_74 qw_358) rfl rfl rfl (by decide +kernel) ⟨Nat.le_of_ble_eq_true rfl, Nat.le_of_ble_eq_true rfl⟩) (g_rVes C hW_27 hS_28 (ves_fur (G := G) hp (by decide)) []) rfl rfl hl_55.1 rfl (lv_room (Nat.le_of_ble_eq_true rfl)) dX4_pass_48 ⟨Nat.zero_le _, Nat.zero_le _⟩) hS_28 (fun r_57 Y_58 H_59 locs_60 hW_61 hS_62 h_56 => ?_)
              obtain ⟨h_56, hy_63⟩ := h_56
              replace hy_63 := hy_63.symm
              subst hy_63
              replace h_56 := h_56.trans (congrArg (fun Z9 => liqW Z9 (9 + 6 * 2)) rd_out)
              subst h_56
              refine lv_if_eq (tgt := 58) hx hb dX4_pass_51 (by decide) (fun b_64 => ?_) (fun b_64 => ?_)
              · refine lv_iconst (v := 0) hx hb dX4_pass_58 (by decide) ?_
                refine lv_iadd hx hb dX4_pass_59 ?_
                refine g_top (y := 1) (by decide) ?_
                refine lv_istore_n (lv' := [(2, .int 1), (3, .int 2), (0, .ref (ad G (65 * n + 0))), (1, .int (nI dd))]) hx hb dX4_pass_60 rfl hl_55 (by decide) rfl (fun ls_65 hl_66 => ?_)
                refine lv_iinc (v := 3) (lv' := [(3, .int 3), (2, .int 1), (0, .ref (ad G (65 * n + 0))), (1, .int (nI dd))]) hx hb dX4_pass_61 hl_66 (k := 1) rfl (by decide) (by decide) rfl (fun ls_67 hl_68 => ?_)
                refine lv_goto (tgt := 36) hx hb dX4_pass_64 (by decide) ?_
                refine lv_iload_n hx hb dX4_pass_36 rfl (lv_at hl_68 0 rfl) ?_
                refine lv_iconst (v := 3) hx hb dX4_pass_37 (by decide) ?_
                refine lv_icmp_ge (tgt := 67) hx hb dX4_pass_38 (by decide) (fun _ => ?_) (fun h9 => absurd h9 (by decide))
                refine lv_iload_n hx hb dX4_pass_67 rfl (lv_at hl_68 1 rfl) ?_
                exact g_iret C hr hlk hW_61 hS_62 dX4_pass_68 (by subst hz; exact ⟨by simp only [passR, clf (show dd < 2 ^ 31 by omega), b_1, b_2, b_17, b_30, b_64, if_true, if_false, molW]; first | done | rfl | decide, by simp only [passR, clf (show dd < 2 ^ 31 by omega), b_1, b_2, b_17, b_30, b_64, if_true, if_false, sr_self]⟩)
              · refine lv_iconst (v := 1) hx hb dX4_pass_54 (by decide) ?_
                refine lv_goto (tgt := 59) hx hb dX4_pass_55 (by decide) ?_
                refine lv_iadd hx hb dX4_pass_59 ?_
                refine g_top (y := 2) (by decide) ?_
                refine lv_istore_n (lv' := [(2, .int 2), (3, .int 2), (0, .ref (ad G (65 * n + 0))), (1, .int (nI dd))]) hx hb dX4_pass_60 rfl hl_55 (by decide) rfl (fun ls_69 hl_70 => ?_)
                refine lv_iinc (v := 3) (lv' := [(3, .int 3), (2, .int 2), (0, .ref (ad G (65 * n + 0))), (1, .int (nI dd))]) hx hb dX4_pass_61 hl_70 (k := 1) rfl (by decide) (by decide) rfl (fun ls_71 hl_72 => ?_)
                refine lv_goto (tgt := 36) hx hb dX4_pass_64 (by decide) ?_
                refine lv_iload_n hx hb dX4_pass_36 rfl (lv_at hl_72 0 rfl) ?_
                refine lv_iconst (v := 3) hx hb dX4_pass_37 (by decide) ?_
                refine lv_icmp_ge (tgt := 67) hx hb dX4_pass_38 (by decide) (fun _ => ?_) (fun h9 => absurd h9 (by decide))
                refine lv_iload_n hx hb dX4_pass_67 rfl (lv_at hl_72 1 rfl) ?_
                exact g_iret C hr hlk hW_61 hS_62 dX4_pass_68 (by subst hz; exact ⟨by simp only [passR, clf (show dd < 2 ^ 31 by omega), b_1, b_2, b_17, b_30, b_64, if_true, if_false, molW]; first | done | rfl | decide, by simp only [passR, clf (show dd < 2 ^ 31 by omega), b_1, b_2, b_17, b_30, b_64, if_true, if_false, sr_self]⟩)
          · refine lv_iconst (v := 1) hx hb dX4_pass_54 (by decide) ?_
            refine lv_goto (tgt := 59) hx hb dX4_pass_55 (by decide) ?_
            refine lv_iadd hx hb dX4_pass_59 ?_
            refine g_top (y := 1) (by decide) ?_
            refine lv_istore_n (lv' := [(2, .int 1), (3, .int 0), (0, .ref (ad G (65 * n + 0))), (1, .int (nI dd))]) hx hb dX4_pass_60 rfl hl_8 (by decide) rfl (fun ls_73 hl_74 => ?_)
            refine lv_iinc (v := 1) (lv' := [(3, .int 1), (2, .int 1), (0, .ref (ad G (65 * n + 0))), (1, .int (nI dd))]) hx hb dX4_pass_61 hl_74 (k := 1) rfl (by decide) (by decide) rfl (fun ls_75 hl_76 => ?_)
            refine lv_goto (tgt := 36) hx hb dX4_pass_64 (by decide) ?_
            refine lv_iload_n hx hb dX4_pass_36 rfl (lv_at hl_76 0 rfl) ?_
            refine lv_iconst (v := 3) hx hb dX4_pass_37 (by decide) ?_
            refine lv_icmp_ge (tgt := 67) hx hb dX4_pass_38 (by decide) (fun h9 => absurd h9 (by decide)) (fun _ => ?_)
            refine lv_iload_n hx hb dX4_pass_41 rfl (lv_at hl_76 1 rfl) ?_
            refine lv_aload_n hx hb dX4_pass_42 rfl (lv_at hl_76 2 rfl) ?_
            refine gP_furnaces C hW_14 hp (hwc hwX4) (mc qw_155) dX4_pass_43 ?_
            refine lv_iload_n hx hb dX4_pass_46 rfl (lv_at hl_76 0 rfl) ?_
            refine g_fur C hW_14 hp 1 (by decide) (vlit (by decide)) dX4_pass_47 ?_
            refine g_calli (va_runV (As := []) (rest := [.int 1]) C.1 (cX6_liquid_ok l G (setRow X n zz) (65 * n + (11 + 3 * 1)) (65 * n + (12 + 3 * 1)) (65 * n + (13 + 3 * 1)) n (9 + 6 * 1) 10 (ves_fur (G := G) hp (by decide))) (cwV 0 C.1.2.2.2.2 (gV qw_355 qw_356 qw_357 qw_74 qw_358) rfl rfl rfl (by decide +kernel) ⟨Nat.le_of_ble_eq_true rfl, Nat.le_of_ble_eq_true rfl⟩) (g_rVes C hW_14 hS_15 (ves_fur (G := G) hp (by decide)) []) rfl rfl hl_76.1 rfl (lv_room (Nat.le_of_ble_eq_true rfl)) dX4_pass_48 ⟨Nat.zero_le _, Nat.zero_le _⟩) hS_15 (fun r_78 Y_79 H_80 locs_81 hW_82 hS_83 h_77 => ?_)
            obtain ⟨h_77, hy_84⟩ := h_77
            replace hy_84 := hy_84.symm
            subst hy_84
            replace h_77 := h_77.trans (congrArg (fun Z9 => liqW Z9 (9 + 6 * 1)) rd_out)
            subst h_77
            refine lv_if_eq (tgt := 58) hx hb dX4_pass_51 (by decide) (fun b_85 => ?_) (fun b_85 => ?_)
            · refine lv_iconst (v := 0) hx hb dX4_pass_58 (by decide) ?_
              refine lv_iadd hx hb dX4_pass_59 ?_
              refine g_top (y := 1) (by decide) ?_
              refine lv_istore_n (lv' := [(2, .int 1), (3, .int 1), (0, .ref (ad G (65 * n + 0))), (1, .int (nI dd))]) hx hb dX4_pass_60 rfl hl_76 (by decide) rfl (fun ls_86 hl_87 => ?_)
              refine lv_iinc (v := 2) (lv' := [(3, .int 2), (2, .int 1), (0, .ref (ad G (65 * n + 0))), (1, .int (nI dd))]) hx hb dX4_pass_61 hl_87 (k := 1) rfl (by decide) (by decide) rfl (fun ls_88 hl_89 => ?_)
              refine lv_goto (tgt := 36) hx hb dX4_pass_64 (by decide) ?_
              refine lv_iload_n hx hb dX4_pass_36 rfl (lv_at hl_89 0 rfl) ?_
              refine lv_iconst (v := 3) hx hb dX4_pass_37 (by decide) ?_
              refine lv_icmp_ge (tgt := 67) hx hb dX4_pass_38 (by decide) (fun h9 => absurd h9 (by decide)) (fun _ => ?_)
              refine lv_iload_n hx hb dX4_pass_41 rfl (lv_at hl_89 1 rfl) ?_
              refine lv_aload_n hx hb dX4_pass_42 rfl (lv_at hl_89 2 rfl) ?_
              refine gP_furnaces C hW_82 hp (hwc hwX4) (mc qw_155) dX4_pass_43 ?_
              refine lv_iload_n hx hb dX4_pass_46 rfl (lv_at hl_89 0 rfl) ?_
              refine g_fur C hW_82 hp 2 (by decide) (vlit (by decide)) dX4_pass_47 ?_
              refine g_calli (va_runV (As := []) (rest := [.int 1]) C.1 (cX6_liquid_ok l G (setRow X n zz) (65 * n + (11 + 3 * 2)) (65 * n + (12 + 3 * 2)) (65 * n + (13 + 3 * 2)) n (9 + 6 * 2) 10 (ves_fur (G := G) hp (by decide))) (cwV 0 C.1.2.2.2.2 (gV qw_355 qw_356 qw_357 qw_74 qw_358) rfl rfl rfl (by decide +kernel) ⟨Nat.le_of_ble_eq_true rfl, Nat.le_of_ble_eq_true rfl⟩) (g_rVes C hW_82 hS_83 (ves_fur (G := G) hp (by decide)) []) rfl rfl hl_89.1 rfl (lv_room (Nat.le_of_ble_eq_true rfl)) dX4_pass_48 ⟨Nat.zero_le _, Nat.zero_le _⟩) hS_83 (fun r_91 Y_92 H_93 locs_94 hW_95 hS_96 h_90 => ?_)
              obtain ⟨h_90, hy_97⟩ := h_90
              replace hy_97 := hy_97.symm
              subst hy_97
              replace h_90 := h_90.trans (congrArg (fun Z9 => liqW Z9 (9 + 6 * 2)) rd_out)
              subst h_90
              refine lv_if_eq (tgt := 58) hx hb dX4_pass_51 (by decide) (fun b_98 => ?_) (fun b_98 => ?_)
              · refine lv_iconst (v := 0) hx hb dX4_pass_58 (by decide) ?_
                refine lv_iadd hx hb dX4_pass_59 ?_
                refine g_top (y := 1) (by decide) ?_
                refine lv_istore_n (lv' := [(2, .int 1), (3, .int 2), (0, .ref (ad G (65 * n + 0))), (1, .int (nI dd))]) hx hb dX4_pass_60 rfl hl_89 (by decide) rfl (fun ls_99 hl_100 => ?_)
                refine lv_iinc (v := 3) (lv' := [(3, .int 3), (2, .int 1), (0, .ref (ad G (65 * n + 0))), (1, .int (nI dd))]) hx hb dX4_pass_61 hl_100 (k := 1) rfl (by decide) (by decide) rfl (fun ls_101 hl_102 => ?_)
                refine lv_goto (tgt := 36) hx hb dX4_pass_64 (by decide) ?_
                refine lv_iload_n hx hb dX4_pass_36 rfl (lv_at hl_102 0 rfl) ?_
                refine lv_iconst (v := 3) hx hb dX4_pass_37 (by decide) ?_
                refine lv_icmp_ge (tgt := 67) hx hb dX4_pass_38 (by decide) (fun _ => ?_) (fun h9 => absurd h9 (by decide))
                refine lv_iload_n hx hb dX4_pass_67 rfl (lv_at hl_102 1 rfl) ?_
                exact g_iret C hr hlk hW_95 hS_96 dX4_pass_68 (by subst hz; exact ⟨by simp only [passR, clf (show dd < 2 ^ 31 by omega), b_1, b_2, b_17, b_85, b_98, if_true, if_false, molW]; first | done | rfl | decide, by simp only [passR, clf (show dd < 2 ^ 31 by omega), b_1, b_2, b_17, b_85, b_98, if_true, if_false, sr_self]⟩)
              · refine lv_iconst (v := 1) hx hb dX4_pass_54 (by decide) ?_
                refine lv_goto (tgt := 59) hx hb dX4_pass_55 (by decide) ?_
                refine lv_iadd hx hb dX4_pass_59 ?_
                refine g_top (y := 2) (by decide) ?_
                refine lv_istore_n (lv' := [(2, .int 2), (3, .int 2), (0, .ref (ad G (65 * n + 0))), (1, .int (nI dd))]) hx hb dX4_pass_60 rfl hl_89 (by decide) rfl (fun ls_103 hl_104 => ?_)
                refine lv_iinc (v := 3) (lv' := [(3, .int 3), (2, .int 2), (0, .ref (ad G (65 * n + 0))), (1, .int (nI dd))]) hx hb dX4_pass_61 hl_104 (k := 1) rfl (by decide) (by decide) rfl (fun ls_105 hl_106 => ?_)
                refine lv_goto (tgt := 36) hx hb dX4_pass_64 (by decide) ?_
                refine lv_iload_n hx hb dX4_pass_36 rfl (lv_at hl_106 0 rfl) ?_
                refine lv_iconst (v := 3) hx hb dX4_pass_37 (by decide) ?_
                refine lv_icmp_ge (tgt := 67) hx hb dX4_pass_38 (by decide) (fun _ => ?_) (fun h9 => absurd h9 (by decide))
                refine lv_iload_n hx hb dX4_pass_67 rfl (lv_at hl_106 1 rfl) ?_
                exact g_iret C hr hlk hW_95 hS_96 dX4_pass_68 (by subst hz; exact ⟨by simp only [passR, clf (show dd < 2 ^ 31 by omega), b_1, b_2, b_17, b_85, b_98, if_true, if_false, molW]; first | done | rfl | decide, by simp only [passR, clf (show dd < 2 ^ 31 by omega), b_1, b_2, b_17, b_85, b_98, if_true, if_false, sr_self]⟩)
            · refine lv_iconst (v := 1) hx hb dX4_pass_54 (by decide) ?_
              refine lv_goto (tgt := 59) hx hb dX4_pass_55 (by decide) ?_
              refine lv_iadd hx hb dX4_pass_59 ?_
              refine g_top (y := 2) (by decide) ?_
              refine lv_istore_n (lv' := [(2, .int 2), (3, .int 1), (0, .ref (ad G (65 * n + 0))), (1, .int (nI dd))]) hx hb dX4_pass_60 rfl hl_76 (by decide) rfl (fun ls_107 hl_108 => ?_)
              refine lv_iinc (v := 2) (lv' := [(3, .int 2), (2, .int 2), (0, .ref (ad G (65 * n + 0))), (1, .int (nI dd))]) hx hb dX4_pass_61 hl_108 (k := 1) rfl (by decide) (by decide) rfl (fun ls_109 hl_110 => ?_)
              refine lv_goto (tgt := 36) hx hb dX4_pass_64 (by decide) ?_
              refine lv_iload_n hx hb dX4_pass_36 rfl (lv_at hl_110 0 rfl) ?_
              refine lv_iconst (v := 3) hx hb dX4_pass_37 (by decide) ?_
              refine lv_icmp_ge (tgt := 67) hx hb dX4_pass_38 (by decide) (fun h9 => absurd h9 (by decide)) (fun _ => ?_)
              refine lv_iload_n hx hb dX4_pass_41 rfl (lv_at hl_110 1 rfl) ?_
              refine lv_aload_n hx hb dX4_pass_42 rfl (lv_at hl_110 2 rfl) ?_
              refine gP_furnaces C hW_82 hp (hwc hwX4) (mc qw_155) dX4_pass_43 ?_
              refine lv_iload_n hx hb dX4_pass_46 rfl (lv_at hl_110 0 rfl) ?_
              refine g_fur C hW_82 hp 2 (by decide) (vlit (by decide)) dX4_pass_47 ?_
              refine g_calli (va_runV (As := []) (rest := [.int 2]) C.1 (cX6_liquid_ok l G (setRow X n zz) (65 * n + (11 + 3 * 2)) (65 * n + (12 + 3 * 2)) (65 * n + (13 + 3 * 2)) n (9 + 6 * 2) 10 (ves_fur (G := G) hp (by decide))) (cwV 0 C.1.2.2.2.2 (gV qw_355 qw_356 qw_357 qw_74 qw_358) rfl rfl rfl (by decide +kernel) ⟨Nat.le_of_ble_eq_true rfl, Nat.le_of_ble_eq_true rfl⟩) (g_rVes C hW_82 hS_83 (ves_fur (G := G) hp (by decide)) []) rfl rfl hl_110.1 rfl (lv_room (Nat.le_of_ble_eq_true rfl)) dX4_pass_48 ⟨Nat.zero_le _, Nat.zero_le _⟩) hS_83 (fun r_112 Y_113 H_114 locs_115 hW_116 hS_117 h_111 => ?_)
              obtain ⟨h_111, hy_118⟩ := h_111
              replace hy_118 := hy_118.symm
              subst hy_118
              replace h_111 := h_111.trans (congrArg (fun Z9 => liqW Z9 (9 + 6 * 2)) rd_out)
              subst h_111
              refine lv_if_eq (tgt := 58) hx hb dX4_pass_51 (by decide) (fun b_119 => ?_) (fun b_119 => ?_)
              · refine lv_iconst (v := 0) hx hb dX4_pass_58 (by decide) ?_
                refine lv_iadd hx hb dX4_pass_59 ?_
                refine g_top (y := 2) (by decide) ?_
                refine lv_istore_n (lv' := [(2, .int 2), (3, .int 2), (0, .ref (ad G (65 * n + 0))), (1, .int (nI dd))]) hx hb dX4_pass_60 rfl hl_110 (by decide) rfl (fun ls_120 hl_121 => ?_)
                refine lv_iinc (v := 3) (lv' := [(3, .int 3), (2, .int 2), (0, .ref (ad G (65 * n + 0))), (1, .int (nI dd))]) hx hb dX4_pass_61 hl_121 (k := 1) rfl (by decide) (by decide) rfl (fun ls_122 hl_123 => ?_)
                refine lv_goto (tgt := 36) hx hb dX4_pass_64 (by decide) ?_
                refine lv_iload_n hx hb dX4_pass_36 rfl (lv_at hl_123 0 rfl) ?_
                refine lv_iconst (v := 3) hx hb dX4_pass_37 (by decide) ?_
                refine lv_icmp_ge (tgt := 67) hx hb dX4_pass_38 (by decide) (fun _ => ?_) (fun h9 => absurd h9 (by decide))
                refine lv_iload_n hx hb dX4_pass_67 rfl (lv_at hl_123 1 rfl) ?_
                exact g_iret C hr hlk hW_116 hS_117 dX4_pass_68 (by subst hz; exact ⟨by simp only [passR, clf (show dd < 2 ^ 31 by omega), b_1, b_2, b_17, b_85, b_119, if_true, if_false, molW]; first | done | rfl | decide, by simp only [passR, clf (show dd < 2 ^ 31 by omega), b_1, b_2, b_17, b_85, b_119, if_true, if_false, sr_self]⟩)
              · refine lv_iconst (v := 1) hx hb dX4_pass_54 (by decide) ?_
                refine lv_goto (tgt := 59) hx hb dX4_pass_55 (by decide) ?_
                refine lv_iadd hx hb dX4_pass_59 ?_
                refine g_top (y := 3) (by decide) ?_
                refine lv_istore_n (lv' := [(2, .int 3), (3, .int 2), (0, .ref (ad G (65 * n + 0))), (1, .int (nI dd))]) hx hb dX4_pass_60 rfl hl_110 (by decide) rfl (fun ls_124 hl_125 => ?_)
                refine lv_iinc (v := 3) (lv' := [(3, .int 3), (2, .int 3), (0, .ref (ad G (65 * n + 0))), (1, .int (nI dd))]) hx hb dX4_pass_61 hl_125 (k := 1) rfl (by decide) (by decide) rfl (fun ls_126 hl_127 => ?_)
                refine lv_goto (tgt := 36) hx hb dX4_pass_64 (by decide) ?_
                refine lv_iload_n hx hb dX4_pass_36 rfl (lv_at hl_127 0 rfl) ?_
                refine lv_iconst (v := 3) hx hb dX4_pass_37 (by decide) ?_
                refine lv_icmp_ge (tgt := 67) hx hb dX4_pass_38 (by decide) (fun _ => ?_) (fun h9 => absurd h9 (by decide))
                refine lv_iload_n hx hb dX4_pass_67 rfl (lv_at hl_127 1 rfl) ?_
                exact g_iret C hr hlk hW_116 hS_117 dX4_pass_68 (by subst hz; exact ⟨by simp only [passR, clf (show dd < 2 ^ 31 by omega), b_1, b_2, b_17, b_85, b_119, if_true, if_false, molW]; first | done | rfl | decide, by simp only [passR, clf (show dd < 2 ^ 31 by omega), b_1, b_2, b_17, b_85, b_119, if_true, if_false, sr_self]⟩)
        | succ q ih =>
          intro kk zz H locs ls hq hf hW hS hl
          refine lv_iload_n hx hb dX4_pass_17 rfl (lv_at hl 0 rfl) ?_
          refine lv_iload_n hx hb dX4_pass_18 rfl (lv_at hl 2 rfl) ?_
          refine lv_icmp_ge (tgt := 32) hx hb dX4_pass_19 (by decide) (fun h9 => absurd h9 (nI_ge (by omega) (by omega))) (fun _ => ?_)
          refine lv_aload_n hx hb dX4_pass_22 rfl (lv_at hl 1 rfl) ?_
          refine g_callv (va_runV (As := []) (rest := []) C.1 (cX4_passOneMinute_ok l G (setRow X n zz) n hp) (cwV 0 C.1.2.2.2.2 (gV qw_900 qw_902 qw_14 qw_72 qw_903) rfl rfl rfl (by decide +kernel) ⟨Nat.le_of_ble_eq_true rfl, Nat.le_of_ble_eq_true rfl⟩) (g_rPlant C hW hS hp []) rfl rfl hl.1 rfl (lv_room (Nat.le_of_ble_eq_true rfl)) dX4_pass_23 ⟨Nat.zero_le _, Nat.zero_le _⟩) hS (fun Y_129 H_130 locs_131 hW_132 hS_133 h_128 => ?_)
          obtain ⟨w_134, ew_134⟩ : ∃ Z9, Z9 = minuteR zz := ⟨_, rfl⟩
          have hW_135 : Wd G (setRow X n w_134) H_130 := Wd.cast (by rw [h_128, ew_134]; exact ((congrArg (fun Z9 => setRow (setRow X n zz) n (minuteR Z9)) rd_out).trans sr_out)) hW_132
          refine lv_iinc (v := nI (kk + 1)) (lv' := [(2, .int (nI (kk + 1))), (0, .ref (ad G (65 * n + 0))), (1, .int (nI dd))]) hx hb dX4_pass_26 hl (k := 0) rfl (nI_1 kk) (by decide) rfl (fun ls_136 hl_137 => ?_)
          refine lv_goto (tgt := 17) hx hb dX4_pass_29 (by decide) ?_
          exact ih (kk + 1) w_134 H_130 locs_131 ls_136 (by omega) (by subst ew_134; exact hf) hW_135 hS_133 (lv_sub hl_137 [0, 1, 2] rfl)
      exact loop dd 0 (X.1 n) s.heap [] ls_3 (by omega) rfl (Wd.cast sr_self.symm hW) hS (lv_sub hl_4 [0, 1, 2] rfl)
    · refine lv_bipush (v := (-2)) hx hb dX4_pass_12 (by decide) ?_
      exact g_iret C hr hlk hW hS dX4_pass_14 (by exact ⟨by simp only [passR, b_1, b_2, if_true, if_false], by simp only [passR, b_1, b_2, if_true, if_false, sr_self]⟩)
