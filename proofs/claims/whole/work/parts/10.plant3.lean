/-! Ranks, waiting, stock; an ingot melted down. -/
theorem qx_long : Cond.constant "Foundry$Plant" 172 100000 ∈ lw_all := lw_mem 365 (by decide +kernel) (by decide +kernel)
theorem kp_blendR {w : Nat → Int32} {i j : Nat} {L x d : Int32} (h : j ≠ i + 4) : blendR w i L x d j = w j := by
  unfold blendR
  split
  · rfl
  · exact pk_un h
theorem kp_addAllR {w : Nat → Int32} {i i2 j : Nat} (h : j < i ∨ i + 4 ≤ j) : addAllR w i i2 j = w j := by
  unfold addAllR addR
  rw [pk_un (by omega), pk_un (by omega), pk_un (by omega), pk_un (by omega)]
def shiftL : Nat → Nat → (Nat → Int32) → (Nat → Int32)
  | 0, _, z => z
  | q + 1, k, z => shiftL q (k + 1) (cpyR z (80 + 4 * (k - 1)) z (80 + 4 * k))
def remeltR (w : Nat → Int32) (x y : Int32) : Int32 × (Nat → Int32) :=
  if sOut x (w 43) = 0 then if sOut y 3 = 0 then
    if sumW w (9 + 6 * y.toNatClampNeg) + sumW w (80 + 4 * x.toNatClampNeg) ≤ 100 then
      let w1 := blendR w (9 + 6 * y.toNatClampNeg) 10 (sumW w (80 + 4 * x.toNatClampNeg)) 20
      let w2 := addAllR w1 (9 + 6 * y.toNatClampNeg) (80 + 4 * x.toNatClampNeg)
      let w3 := shiftL ((w 43).toNatClampNeg - (x.toNatClampNeg + 1)) (x.toNatClampNeg + 1) w2
      let w4 := upd w3 43 (w 43 - 1)
      (w4 (9 + 6 * y.toNatClampNeg + 4), w4)
    else (-5, w)
  else (-1, w) else (-1, w)
def icfW (w : Nat → Int32) (f g : Nat) : Int32 := if sumW w (80 + 4 * f) = sumW w (80 + 4 * g) then (if w (80 + 4 * f + 0) = w (80 + 4 * g + 0) then (if nI g ≤ nI f then 0 else 1) else if w (80 + 4 * f + 0) ≤ w (80 + 4 * g + 0) then 0 else 1) else if sumW w (80 + 4 * f) ≤ sumW w (80 + 4 * g) then 0 else 1
def rankIL (w : Nat → Int32) (f : Nat) : Nat → Nat
  | 0 => 0
  | o + 1 => if nI o = nI f then rankIL w f o else if icfW w o f = 0 then rankIL w f o else rankIL w f o + 1
def rankI (w : Nat → Int32) (f : Nat) : Int32 := nI (rankIL w f (w 43).toNatClampNeg)
def rankFW (w : Nat → Int32) (f : Nat) : Int32 := (if 0 = f then 0 else if fcfW w 0 f = 0 then 0 else 1) + (if 1 = f then 0 else if fcfW w 1 f = 0 then 0 else 1) + (if 2 = f then 0 else if fcfW w 2 f = 0 then 0 else 1)
def mbwL (p r : Int32) : Nat → Int32 → Nat → Nat
  | 0, _, k => k
  | q + 1, t, k => if p ≤ t then k else mbwL p r q (lim (t + r)) (k + 1)
def mbwW (w : Nat → Int32) (f : Nat) : Int32 := nI (mbwL (ptW w (9 + 6 * f)) (riseW w f) 100000 (w (9 + 6 * f + 4)) 0)
def agrB (w : Nat → Int32) (f : Nat) : Int32 := if wbmW w f = 0 then 1 else if mbwW w f = mbdW w f then 1 else 0
def agrW (w : Nat → Int32) (f : Nat) : Int32 := if sumW w (9 + 6 * f) ≤ 0 then (if wbmW w f = 0 then 1 else if mbwW w f = mbdW w f then 1 else 0) else if ptW w (9 + 6 * f) = pdW w (9 + 6 * f) then (if wbmW w f = 0 then 1 else if mbwW w f = mbdW w f then 1 else 0) else 0
def accL (w : Nat → Int32) (i st j : Nat) : Nat → Int32 → Int32
  | 0, a => a
  | k + 1, a => accL w i st j k a + w (i + st * k + j)
def stk0 (w : Nat → Int32) (j : Nat) : Int32 := w (9 + 6 * 0 + j) + w (9 + 6 * 1 + j) + w (9 + 6 * 2 + j) + w (27 + 5 * 0 + j) + w (27 + 5 * 1 + j) + w (27 + 5 * 2 + j)
def stkW (w : Nat → Int32) (j : Nat) : Int32 := accL w 80 4 j (w 43).toNatClampNeg (accL w 44 6 j (w 42).toNatClampNeg (stk0 w j))
set_option maxHeartbeats 4000000 in
set_option maxRecDepth 100000 in
theorem cX4_remelt_ok (l : Launch) (G : GT) (X : St) (n : Nat) (hp : n < 11) (hi : PInv (X.1 n)) (x y : Int32) : MetI l G yX4_remelt (wsG yX4_remelt cX4_remelt 6 (some .int)) (rmz 2 221) [.ref (ad G (65 * n + 0)), .int x, .int y] X (fun res Y => res = (remeltR (X.1 n) x y).1 ∧ Y = setRow X n (remeltR (X.1 n) x y).2) := by
  refine g_met (cc := cX4_remelt) (maxL := 6) (ret := (some .int)) (by decide) rfl (Nat.le_of_ble_eq_true rfl) ?_
  intro p e s m below meth c ls C hr hlk hnm hW hl
  have hx := C.1.1
  have hb := C.1.2.1
  have hS : va_S (Ab G) s.heap s.heap [] := va_S.rf
  have hl : lv_has ls 6 [(0, .ref (ad G (65 * n + 0))), (1, .int x), (2, .int y)] := hl
  obtain ⟨⟨km, hkm, em⟩, ⟨ki, hki, ei⟩⟩ := hi
  refine lv_iload_n hx hb dX4_remelt_0 rfl (lv_at hl 1 rfl) ?_
  refine lv_aload_n hx hb dX4_remelt_1 rfl (lv_at hl 0 rfl) ?_
  refine gP_ingotCount C hW hp (hwc hwX4) (mc qw_169) dX4_remelt_2 ?_
  refine g_top (y := nI ki) ei ?_
  refine g_calli (va_runSN (As := [.int x, .int (nI ki)]) (rest := []) C.1 (cX7_outside_ok l G X x (nI ki)) (⟨va_cnB 2 C.1.2.2.2.2 (gN qw_827) rfl rfl rfl (C.2.2.1.1 _ nw_27) (C.1.2.2.2.2 _ (mc qw_71)) (by decide +kernel) ⟨Nat.le_of_ble_eq_true rfl, Nat.le_of_ble_eq_true rfl⟩, C.1.2.2.2.2 _ (mc qw_826), trivial⟩) (g_pre C hW hS [.int x, .int (nI ki)]) rfl rfl hl.1 rfl (lv_room (Nat.le_of_ble_eq_true rfl)) dX4_remelt_5 ⟨Nat.zero_le _, Nat.zero_le _⟩) hS (fun r_2 Y_3 H_4 locs_5 hW_6 hS_7 h_1 => ?_)
  obtain ⟨h_1, hy_8⟩ := h_1
  replace hy_8 := hy_8.symm
  subst hy_8
  subst h_1
  refine lv_if_ne (tgt := 19) hx hb dX4_remelt_8 (by decide) (fun b_9 => ?_) (fun b_9 => ?_)
  · refine lv_iconst (v := (-1)) hx hb dX4_remelt_19 (by decide) ?_
    exact g_iret C hr hlk hW_6 hS_7 dX4_remelt_20 (by exact ⟨by simp only [remeltR, b_9, em, ei, pk_us, nI_1, nI_pred, Nat.add_sub_cancel, clf (show km < 2 ^ 31 by omega), clf (show ki < 2 ^ 31 by omega), if_true, if_false, sr_self], by simp only [remeltR, b_9, em, ei, pk_us, nI_1, nI_pred, Nat.add_sub_cancel, clf (show km < 2 ^ 31 by omega), clf (show ki < 2 ^ 31 by omega), if_true, if_false, sr_self]⟩)
  · obtain ⟨f_10, hf_10, rfl⟩ := sOut_in (n := ki) (by omega) b_9
    refine lv_iload_n hx hb dX4_remelt_11 rfl (lv_at hl 2 rfl) ?_
    refine lv_iconst (v := 3) hx hb dX4_remelt_12 (by decide) ?_
    refine g_calli (va_runSN (As := [.int y, .int 3]) (rest := []) C.1 (cX7_outside_ok l G X y 3) (⟨va_cnB 2 C.1.2.2.2.2 (gN qw_827) rfl rfl rfl (C.2.2.1.1 _ nw_27) (C.1.2.2.2.2 _ (mc qw_71)) (by decide +kernel) ⟨Nat.le_of_ble_eq_true rfl, Nat.le_of_ble_eq_true rfl⟩, C.1.2.2.2.2 _ (mc qw_826), trivial⟩) (g_pre C hW_6 hS_7 [.int y, .int 3]) rfl rfl hl.1 rfl (lv_room (Nat.le_of_ble_eq_true rfl)) dX4_remelt_13 ⟨Nat.zero_le _, Nat.zero_le _⟩) hS_7 (fun r_12 Y_13 H_14 locs_15 hW_16 hS_17 h_11 => ?_)
    obtain ⟨h_11, hy_18⟩ := h_11
    replace hy_18 := hy_18.symm
    subst hy_18
    subst h_11
    refine lv_if_eq (tgt := 21) hx hb dX4_remelt_16 (by decide) (fun b_19 => ?_) (fun b_19 => ?_)
    · obtain ⟨f_20, hf_20, rfl⟩ := sOut_in3 b_19
      refine lv_aload_n hx hb dX4_remelt_21 rfl (lv_at hl 0 rfl) ?_
      refine gP_furnaces C hW_16 hp (hwc hwX4) (mc qw_155) dX4_remelt_22 ?_
      refine lv_iload_n hx hb dX4_remelt_25 rfl (lv_at hl 2 rfl) ?_
      refine g_fur C hW_16 hp f_20 (nI_clamp (by omega)) (vp_in_nI hf_20 (by decide)) dX4_remelt_26 ?_
      refine lv_astore_n (lv' := [(3, .ref (ad G (65 * n + (11 + 3 * f_20)))), (0, .ref (ad G (65 * n + 0))), (1, .int (nI f_10)), (2, .int (nI f_20))]) hx hb dX4_remelt_27 rfl hl (by decide) rfl (fun ls_21 hl_22 => ?_)
      refine lv_aload_n hx hb dX4_remelt_28 rfl (lv_at hl_22 1 rfl) ?_
      refine gP_ingots C hW_16 hp (hwc hwX4) (mc qw_167) dX4_remelt_29 ?_
      refine lv_iload_n hx hb dX4_remelt_32 rfl (lv_at hl_22 2 rfl) ?_
      refine g_ing C hW_16 hp f_10 (nI_clamp (by omega)) (vp_in_nI (show f_10 < 12 by omega) (by decide)) dX4_remelt_33 ?_
      refine g_calli (va_runV (As := []) (rest := []) C.1 (cX3_sum_ok l G X (65 * n + (41 + 2 * f_10)) (65 * n + (42 + 2 * f_10)) n (80 + 4 * f_10) (mix_ing (G := G) hp (show f_10 < 12 by omega))) (cwV 0 C.1.2.2.2.2 (gV qw_337 qw_338 qw_339 qw_73 qw_340) rfl rfl rfl (by decide +kernel) ⟨Nat.le_of_ble_eq_true rfl, Nat.le_of_ble_eq_true rfl⟩) (g_rMix C hW_16 hS_17 (mix_ing (G := G) hp (show f_10 < 12 by omega)) []) rfl rfl hl_22.1 rfl (lv_room (Nat.le_of_ble_eq_true rfl)) dX4_remelt_34 ⟨Nat.zero_le _, Nat.zero_le _⟩) hS_17 (fun r_24 Y_25 H_26 locs_27 hW_28 hS_29 h_23 => ?_)
      obtain ⟨h_23, hy_30⟩ := h_23
      replace hy_30 := hy_30.symm
      subst hy_30
      subst h_23
      refine lv_topi (fun v_31 ev_31 => ?_)
      refine lv_istore (lv' := [(4, .int v_31), (3, .ref (ad G (65 * n + (11 + 3 * f_20)))), (0, .ref (ad G (65 * n + 0))), (1, .int (nI f_10)), (2, .int (nI f_20))]) hx hb dX4_remelt_37 hl_22 (by decide) rfl (fun ls_32 hl_33 => ?_)
      refine lv_aload_n hx hb dX4_remelt_39 rfl (lv_at hl_33 1 rfl) ?_
      refine g_contentN C hW_28 (ves_fur (G := G) hp hf_20) (hwc hwX6) nw_20 dX4_remelt_40 ?_
      refine g_calli (va_runV (As := []) (rest := []) C.1 (cX3_sum_ok l G X (65 * n + (12 + 3 * f_20)) (65 * n + (13 + 3 * f_20)) n (9 + 6 * f_20) ((ves_fur (G := G) hp hf_20).mix)) (cwV 0 C.1.2.2.2.2 (gV qw_337 qw_338 qw_339 qw_73 qw_340) rfl rfl rfl (by decide +kernel) ⟨Nat.le_of_ble_eq_true rfl, Nat.le_of_ble_eq_true rfl⟩) (g_rMix C hW_28 hS_29 (ves_fur (G := G) hp hf_20).mix []) rfl rfl hl_33.1 rfl (lv_room (Nat.le_of_ble_eq_true rfl)) dX4_remelt_43 ⟨Nat.zero_le _, Nat.zero_le _⟩) hS_29 (fun r_35 Y_36 H_37 locs_38 hW_39 hS_40 h_34 => ?_)
      obtain ⟨h_34, hy_41⟩ := h_34
      replace hy_41 := hy_41.symm
      subst hy_41
      subst h_34
      refine lv_iload hx hb dX4_remelt_46 (lv_at hl_33 0 rfl) ?_
      refine lv_iadd hx hb dX4_remelt_48 ?_
      refine lv_bipush (v := 100) hx hb dX4_remelt_49 (by decide) ?_
      refine lv_icmp_le (tgt := 57) hx hb dX4_remelt_51 (by decide) (fun b_42 => ?_) (fun b_42 => ?_)
      · refine lv_aload_n hx hb dX4_remelt_57 rfl (lv_at hl_33 1 rfl) ?_
        refine lv_iload hx hb dX4_remelt_58 (lv_at hl_33 0 rfl) ?_
        refine lv_bipush (v := 20) hx hb dX4_remelt_60 (by decide) ?_
        refine g_callv (va_runV (As := [.int v_31, .int 20]) (rest := []) C.1 (cX6_blend_ok l G X (65 * n + (11 + 3 * f_20)) (65 * n + (12 + 3 * f_20)) (65 * n + (13 + 3 * f_20)) n (9 + 6 * f_20) 10 (ves_fur (G := G) hp hf_20) v_31 20) (cwV 2 C.1.2.2.2.2 (gV qw_833 qw_834 qw_835 qw_74 qw_836) rfl rfl rfl (by decide +kernel) ⟨Nat.le_of_ble_eq_true rfl, Nat.le_of_ble_eq_true rfl⟩) (g_rVes C hW_39 hS_40 (ves_fur (G := G) hp hf_20) [.int v_31, .int 20]) rfl rfl hl_33.1 rfl (lv_room (Nat.le_of_ble_eq_true rfl)) dX4_remelt_62 ⟨Nat.zero_le _, Nat.zero_le _⟩) hS_40 (fun Y_44 H_45 locs_46 hW_47 hS_48 h_43 => ?_)
        obtain ⟨w_49, ew_49⟩ : ∃ Z9, Z9 = blendR (X.1 n) (9 + 6 * f_20) 10 v_31 20 := ⟨_, rfl⟩
        have kn_50 : w_49 (42) = nI km := by rw [ew_49]; exact (kp_blendR (by omega)).trans em
        have kn_51 : w_49 (43) = nI ki := by rw [ew_49]; exact (kp_blendR (by omega)).trans ei
        have hW_52 : Wd G (setRow X n w_49) H_45 := Wd.cast (by rw [h_43, ew_49]) hW_47
        refine lv_aload_n hx hb dX4_remelt_65 rfl (lv_at hl_33 1 rfl) ?_
        refine g_contentN C hW_52 (ves_fur (G := G) hp hf_20) (hwc hwX6) nw_20 dX4_remelt_66 ?_
        refine lv_aload_n hx hb dX4_remelt_69 rfl (lv_at hl_33 2 rfl) ?_
        refine gP_ingots C hW_52 hp (hwc hwX4) (mc qw_167) dX4_remelt_70 ?_
        refine lv_iload_n hx hb dX4_remelt_73 rfl (lv_at hl_33 3 rfl) ?_
        refine g_ing C hW_52 hp f_10 (nI_clamp (by omega)) (vp_in_nI (show f_10 < 12 by omega) (by decide)) dX4_remelt_74 ?_
        refine g_callv (va_runV (As := [.ref (ad G (65 * n + (41 + 2 * f_10)))]) (rest := []) C.1 (cX3_addAll_ok l G (setRow X n w_49) (65 * n + (12 + 3 * f_20)) (65 * n + (13 + 3 * f_20)) n (9 + 6 * f_20) ((ves_fur (G := G) hp hf_20).mix) (65 * n + (41 + 2 * f_10)) (65 * n + (42 + 2 * f_10)) (80 + 4 * f_10) (mix_ing (G := G) hp (show f_10 < 12 by omega))) (cwV 1 C.1.2.2.2.2 (gV qw_868 qw_869 qw_870 qw_73 qw_871) rfl rfl rfl (by decide +kernel) ⟨Nat.le_of_ble_eq_true rfl, Nat.le_of_ble_eq_true rfl⟩) (g_rMix C hW_52 hS_48 (ves_fur (G := G) hp hf_20).mix [.ref (ad G (65 * n + (41 + 2 * f_10)))]) rfl rfl hl_33.1 rfl (lv_room (Nat.le_of_ble_eq_true rfl)) dX4_remelt_75 ⟨Nat.zero_le _, Nat.zero_le _⟩) hS_48 (fun Y_54 H_55 locs_56 hW_57 hS_58 h_53 => ?_)
        obtain ⟨w_59, ew_59⟩ : ∃ Z9, Z9 = addAllR w_49 (9 + 6 * f_20) (80 + 4 * f_10) := ⟨_, rfl⟩
        have kn_60 : w_59 (42) = nI km := by rw [ew_59]; exact (kp_addAllR (by omega)).trans kn_50
        have kn_61 : w_59 (43) = nI ki := by rw [ew_59]; exact (kp_addAllR (by omega)).trans kn_51
        have hW_62 : Wd G (setRow X n w_59) H_55 := Wd.cast (by rw [h_53, ew_59]; exact ((congrArg (fun Z9 => setRow (setRow X n w_49) n (addAllR Z9 (9 + 6 * f_20) (80 + 4 * f_10))) rd_out).trans sr_out)) hW_57
        refine lv_iload_n hx hb dX4_remelt_78 rfl (lv_at hl_33 3 rfl) ?_
        refine lv_iconst (v := 1) hx hb dX4_remelt_79 (by decide) ?_
        refine lv_iadd hx hb dX4_remelt_80 ?_
        refine g_top (y := nI (f_10 + 1)) (nI_add f_10 1) ?_
        refine lv_istore (lv' := [(5, .int (nI (f_10 + 1))), (4, .int v_31), (3, .ref (ad G (65 * n + (11 + 3 * f_20)))), (0, .ref (ad G (65 * n + 0))), (1, .int (nI f_10)), (2, .int (nI f_20))]) hx hb dX4_remelt_81 hl_33 (by decide) rfl (fun ls_63 hl_64 => ?_)
        have loop : ∀ (q : Nat) (kk : Nat) (zz : Nat → Int32) (H : Heap) (locs : List Loc) (ls : Array Slot), 1 ≤ kk → kk + q = ki → shiftL q kk zz = shiftL (ki - (f_10 + 1)) (f_10 + 1) w_59 → zz 43 = nI ki → Wd G (setRow X n zz) H → va_S (Ab G) s.heap H locs → lv_has ls 6 [(5, .int (nI kk)), (0, .ref (ad G (65 * n + 0))), (3, .ref (ad G (65 * n + (11 + 3 * f_20))))] → W p l e (rmz 2 221) s m ([.ref (ad G (65 * n + 0)), .int (nI f_10), .int (nI f_20)] : List Value).toArray below meth c H locs 0 0 (MQ below (Ki G (fun res Y => res = (remeltR (X.1 n) (nI f_10) (nI f_20)).1 ∧ Y = setRow X n (remeltR (X.1 n) (nI f_10) (nI f_20)).2)) ([.ref (ad G (65 * n + 0)), .int (nI f_10), .int (nI f_20)] : List Value).toArray s 0 0 (Ab G)) (F0 m 83 ls []) := by
          intro q
          induction q with
          | zero =>
            intro kk zz H locs ls h1k hq hf kz hW hS hl
            have hz : zz = shiftL (ki - (f_10 + 1)) (f_10 + 1) w_59 := hf
            refine lv_iload hx hb dX4_remelt_83 (lv_at hl 0 rfl) ?_
            refine lv_aload_n hx hb dX4_remelt_85 rfl (lv_at hl 1 rfl) ?_
            refine gP_ingotCount C hW hp (hwc hwX4) (mc qw_169) dX4_remelt_86 ?_
            refine g_top (y := zz (43)) (congrFun rd_out _) ?_
            refine g_top (y := nI ki) kz ?_
            refine lv_icmp_ge (tgt := 117) hx hb dX4_remelt_89 (by decide) (fun _ => ?_) (fun h9 => absurd (nI_le (by omega) (by omega)) h9)
            refine lv_aload_n hx hb dX4_remelt_117 rfl (lv_at hl 1 rfl) ?_
            refine lv_dup hx hb dX4_remelt_118 rfl ?_
            refine gP_ingotCount C hW hp (hwc hwX4) (mc qw_169) dX4_remelt_119 ?_
            refine g_top (y := zz (43)) (congrFun rd_out _) ?_
            refine g_top (y := nI ki) kz ?_
            refine lv_iconst (v := 1) hx hb dX4_remelt_122 (by decide) ?_
            refine lv_isub hx hb dX4_remelt_123 ?_
            refine g_top (y := nI (ki - 1)) (pk_sub (a := ki) (b := 1) (by omega)) ?_
            refine gP_ingotCountP C hW hS hp (hwc hwX4) (mc qw_169) dX4_remelt_124 (fun H_65 locs_66 hW_67 hS_68 => ?_)
            obtain ⟨w_69, ew_69⟩ : ∃ Z9, Z9 = upd zz (43) (nI (ki - 1)) := ⟨_, rfl⟩
            have kn_70 : w_69 (43) = nI (ki - 1) := by rw [ew_69]; exact pk_us
            have hW_71 : Wd G (setRow X n w_69) H_65 := Wd.cast (by rw [ew_69]; exact st_out) hW_67
            refine lv_aload_n hx hb dX4_remelt_127 rfl (lv_at hl 2 rfl) ?_
            refine g_tempN C hW_71 (ves_fur (G := G) hp hf_20) (hwc hwX6) nw_22 dX4_remelt_128 ?_
            refine g_top (y := w_69 (9 + 6 * f_20 + 4)) (congrFun rd_out _) ?_
            exact g_iret C hr hlk hW_71 hS_68 dX4_remelt_131 (by subst ev_31; exact ⟨by simp only [remeltR, clf (show f_10 < 2 ^ 31 by omega), clf (show f_20 < 2 ^ 31 by omega), b_9, b_19, b_42, ← ew_49, ← ew_59, ← hz, ← ew_69, ei, clf (show ki < 2 ^ 31 by omega), (show nI ki - 1 = nI (ki - 1) from pk_sub (a := ki) (b := 1) (by omega)), if_true, if_false], by simp only [remeltR, clf (show f_10 < 2 ^ 31 by omega), clf (show f_20 < 2 ^ 31 by omega), b_9, b_19, b_42, ← ew_49, ← ew_59, ← hz, ← ew_69, ei, clf (show ki < 2 ^ 31 by omega), (show nI ki - 1 = nI (ki - 1) from pk_sub (a := ki) (b := 1) (by omega)), if_true, if_false]⟩)
          | succ q ih =>
            intro kk zz H locs ls h1k hq hf kz hW hS hl
            refine lv_iload hx hb dX4_remelt_83 (lv_at hl 0 rfl) ?_
            refine lv_aload_n hx hb dX4_remelt_85 rfl (lv_at hl 1 rfl) ?_
            refine gP_ingotCount C hW hp (hwc hwX4) (mc qw_169) dX4_remelt_86 ?_
            refine g_top (y := zz (43)) (congrFun rd_out _) ?_
            refine g_top (y := nI ki) kz ?_
            refine lv_icmp_ge (tgt := 117) hx hb dX4_remelt_89 (by decide) (fun h9 => absurd h9 (nI_ge (by omega) (by omega))) (fun _ => ?_)
            refine lv_aload_n hx hb dX4_remelt_92 rfl (lv_at hl 1 rfl) ?_
            refine gP_ingots C hW hp (hwc hwX4) (mc qw_167) dX4_remelt_93 ?_
            refine lv_iload hx hb dX4_remelt_96 (lv_at hl 0 rfl) ?_
            refine lv_iconst (v := 1) hx hb dX4_remelt_98 (by decide) ?_
            refine lv_isub hx hb dX4_remelt_99 ?_
            refine g_top (y := nI (kk - 1)) (pk_sub (a := kk) (b := 1) (by omega)) ?_
            refine g_ing C hW hp (kk - 1) (nI_clamp (by omega)) (vp_in_nI (show kk - 1 < 12 by omega) (by decide)) dX4_remelt_100 ?_
            refine lv_aload_n hx hb dX4_remelt_101 rfl (lv_at hl 1 rfl) ?_
            refine gP_ingots C hW hp (hwc hwX4) (mc qw_167) dX4_remelt_102 ?_
            refine lv_iload hx hb dX4_remelt_105 (lv_at hl 0 rfl) ?_
            refine g_ing C hW hp kk (nI_clamp (by omega)) (vp_in_nI (show kk < 12 by omega) (by decide)) dX4_remelt_107 ?_
            refine g_callv (va_runV (As := [.ref (ad G (65 * n + (41 + 2 * kk)))]) (rest := []) C.1 (cX3_copyFrom_ok l G (setRow X n zz) (65 * n + (41 + 2 * (kk - 1))) (65 * n + (42 + 2 * (kk - 1))) n (80 + 4 * (kk - 1)) (mix_ing (G := G) hp (show kk - 1 < 12 by omega)) (65 * n + (41 + 2 * kk)) (65 * n + (42 + 2 * kk)) n (80 + 4 * kk) (mix_ing (G := G) hp (show kk < 12 by omega))) (cwV 1 C.1.2.2.2.2 (gV qw_785 qw_781 qw_782 qw_73 qw_783) rfl rfl rfl (by decide +kernel) ⟨Nat.le_of_ble_eq_true rfl, Nat.le_of_ble_eq_true rfl⟩) (g_rMix C hW hS (mix_ing (G := G) hp (show kk - 1 < 12 by omega)) [.ref (ad G (65 * n + (41 + 2 * kk)))]) rfl rfl hl.1 rfl (lv_room (Nat.le_of_ble_eq_true rfl)) dX4_remelt_108 ⟨Nat.zero_le _, Nat.zero_le _⟩) hS (fun Y_73 H_74 locs_75 hW_76 hS_77 h_72 => ?_)
            obtain ⟨w_78, ew_78⟩ : ∃ Z9, Z9 = cpyR zz (80 + 4 * (kk - 1)) zz (80 + 4 * kk) := ⟨_, rfl⟩
            have kn_79 : w_78 (43) = nI ki := by rw [ew_78]; exact (kp_cpyR (by omega)).trans kz
            have hW_80 : Wd G (setRow X n w_78) H_74 := Wd.cast (by rw [h_72, ew_78]; exact ((congrArg (fun Z9 => setRow (setRow X n zz) n (cpyR Z9 (80 + 4 * (kk - 1)) Z9 (80 + 4 * kk))) rd_out).trans sr_out)) hW_76
            refine lv_iinc (v := nI (kk + 1)) (lv' := [(5, .int (nI (kk + 1))), (0, .ref (ad G (65 * n + 0))), (3, .ref (ad G (65 * n + (11 + 3 * f_20))))]) hx hb dX4_remelt_111 hl (k := 0) rfl (nI_1 kk) (by decide) rfl (fun ls_81 hl_82 => ?_)
            refine lv_goto (tgt := 83) hx hb dX4_remelt_114 (by decide) ?_
            exact ih (kk + 1) w_78 H_74 locs_75 ls_81 (by omega) (by omega) (by rw [ew_78]; exact hf) kn_79 hW_80 hS_77 (lv_sub hl_82 [0, 1, 2] rfl)
        exact loop (ki - (f_10 + 1)) (f_10 + 1) w_59 H_55 locs_56 ls_63 (by omega) (by omega) rfl kn_61 hW_62 hS_58 (lv_sub hl_64 [0, 3, 2] rfl)
      · refine lv_bipush (v := (-5)) hx hb dX4_remelt_54 (by decide) ?_
        exact g_iret C hr hlk hW_39 hS_40 dX4_remelt_56 (by subst ev_31; exact ⟨by simp only [remeltR, clf (show f_10 < 2 ^ 31 by omega), clf (show f_20 < 2 ^ 31 by omega), b_9, b_19, b_42, em, ei, pk_us, nI_1, nI_pred, Nat.add_sub_cancel, clf (show km < 2 ^ 31 by omega), clf (show ki < 2 ^ 31 by omega), if_true, if_false, sr_self], by simp only [remeltR, clf (show f_10 < 2 ^ 31 by omega), clf (show f_20 < 2 ^ 31 by omega), b_9, b_19, b_42, em, ei, pk_us, nI_1, nI_pred, Nat.add_sub_cancel, clf (show km < 2 ^ 31 by omega), clf (show ki < 2 ^ 31 by omega), if_true, if_false, sr_self]⟩)
    · refine lv_iconst (v := (-1)) hx hb dX4_remelt_19 (by decide) ?_
      exact g_iret C hr hlk hW_16 hS_17 dX4_remelt_20 (by exact ⟨by simp only [remeltR, clf (show f_10 < 2 ^ 31 by omega), b_9, b_19, em, ei, pk_us, nI_1, nI_pred, Nat.add_sub_cancel, clf (show km < 2 ^ 31 by omega), clf (show ki < 2 ^ 31 by omega), if_true, if_false, sr_self], by simp only [remeltR, clf (show f_10 < 2 ^ 31 by omega), b_9, b_19, em, ei, pk_us, nI_1, nI_pred, Nat.add_sub_cancel, clf (show km < 2 ^ 31 by omega), clf (show ki < 2 ^ 31 by omega), if_true, if_false, sr_self]⟩)

set_option maxHeartbeats 4000000 in
set_option maxRecDepth 100000 in
theorem cX4_ingotComesFirst_ok (l : Launch) (G : GT) (X : St) (n : Nat) (hp : n < 11) (f : Nat) (hf : f < 12) (g : Nat) (hg : g < 12) : MetI l G yX4_ingotComesFirst (wsG yX4_ingotComesFirst cX4_ingotComesFirst 7 (some .boolean)) (rmz 1 22) [.ref (ad G (65 * n + 0)), .int (nI f), .int (nI g)] X (fun res Y => res = icfW (X.1 n) f g ∧ Y = X) := by
  refine g_met (cc := cX4_ingotComesFirst) (maxL := 7) (ret := (some .boolean)) (by decide) rfl (Nat.le_of_ble_eq_true rfl) ?_
  intro p e s m below meth c ls C hr hlk hnm hW hl
  have hx := C.1.1
  have hb := C.1.2.1
  have hS : va_S (Ab G) s.heap s.heap [] := va_S.rf
  have hl : lv_has ls 7 [(0, .ref (ad G (65 * n + 0))), (1, .int (nI f)), (2, .int (nI g))] := hl
  refine lv_aload_n hx hb dX4_ingotComesFirst_0 rfl (lv_at hl 0 rfl) ?_
  refine gP_ingots C hW hp (hwc hwX4) (mc qw_167) dX4_ingotComesFirst_1 ?_
  refine lv_iload_n hx hb dX4_ingotComesFirst_4 rfl (lv_at hl 1 rfl) ?_
  refine g_ing C hW hp f (nI_clamp (by omega)) (vp_in_nI hf (by decide)) dX4_ingotComesFirst_5 ?_
  refine g_calli (va_runV (As := []) (rest := []) C.1 (cX3_sum_ok l G X (65 * n + (41 + 2 * f)) (65 * n + (42 + 2 * f)) n (80 + 4 * f) (mix_ing (G := G) hp hf)) (cwV 0 C.1.2.2.2.2 (gV qw_337 qw_338 qw_339 qw_73 qw_340) rfl rfl rfl (by decide +kernel) ⟨Nat.le_of_ble_eq_true rfl, Nat.le_of_ble_eq_true rfl⟩) (g_rMix C hW hS (mix_ing (G := G) hp hf) []) rfl rfl hl.1 rfl (lv_room (Nat.le_of_ble_eq_true rfl)) dX4_ingotComesFirst_6 ⟨Nat.zero_le _, Nat.zero_le _⟩) hS (fun r_2 Y_3 H_4 locs_5 hW_6 hS_7 h_1 => ?_)
  obtain ⟨h_1, hy_8⟩ := h_1
  replace hy_8 := hy_8.symm
  subst hy_8
  subst h_1
  refine lv_topi (fun v_9 ev_9 => ?_)
  refine lv_istore_n (lv' := [(3, .int v_9), (0, .ref (ad G (65 * n + 0))), (1, .int (nI f)), (2, .int (nI g))]) hx hb dX4_ingotComesFirst_9 rfl hl (by decide) rfl (fun ls_10 hl_11 => ?_)
  refine lv_aload_n hx hb dX4_ingotComesFirst_10 rfl (lv_at hl_11 1 rfl) ?_
  refine gP_ingots C hW_6 hp (hwc hwX4) (mc qw_167) dX4_ingotComesFirst_11 ?_
  refine lv_iload_n hx hb dX4_ingotComesFirst_14 rfl (lv_at hl_11 3 rfl) ?_
  refine g_ing C hW_6 hp g (nI_clamp (by omega)) (vp_in_nI hg (by decide)) dX4_ingotComesFirst_15 ?_
  refine g_calli (va_runV (As := []) (rest := []) C.1 (cX3_sum_ok l G X (65 * n + (41 + 2 * g)) (65 * n + (42 + 2 * g)) n (80 + 4 * g) (mix_ing (G := G) hp hg)) (cwV 0 C.1.2.2.2.2 (gV qw_337 qw_338 qw_339 qw_73 qw_340) rfl rfl rfl (by decide +kernel) ⟨Nat.le_of_ble_eq_true rfl, Nat.le_of_ble_eq_true rfl⟩) (g_rMix C hW_6 hS_7 (mix_ing (G := G) hp hg) []) rfl rfl hl_11.1 rfl (lv_room (Nat.le_of_ble_eq_true rfl)) dX4_ingotComesFirst_16 ⟨Nat.zero_le _, Nat.zero_le _⟩) hS_7 (fun r_13 Y_14 H_15 locs_16 hW_17 hS_18 h_12 => ?_)
  obtain ⟨h_12, hy_19⟩ := h_12
  replace hy_19 := hy_19.symm
  subst hy_19
  subst h_12
  refine lv_topi (fun v_20 ev_20 => ?_)
  refine lv_istore (lv' := [(4, .int v_20), (3, .int v_9), (0, .ref (ad G (65 * n + 0))), (1, .int (nI f)), (2, .int (nI g))]) hx hb dX4_ingotComesFirst_19 hl_11 (by decide) rfl (fun ls_21 hl_22 => ?_)
  refine lv_iload_n hx hb dX4_ingotComesFirst_21 rfl (lv_at hl_22 1 rfl) ?_
  refine lv_iload hx hb dX4_ingotComesFirst_22 (lv_at hl_22 0 rfl) ?_
  refine lv_icmp_eq (tgt := 39) hx hb dX4_ingotComesFirst_24 (by decide) (fun b_23 => ?_) (fun b_23 => ?_)
  · refine lv_aload_n hx hb dX4_ingotComesFirst_39 rfl (lv_at hl_22 2 rfl) ?_
    refine gP_ingots C hW_17 hp (hwc hwX4) (mc qw_167) dX4_ingotComesFirst_40 ?_
    refine lv_iload_n hx hb dX4_ingotComesFirst_43 rfl (lv_at hl_22 3 rfl) ?_
    refine g_ing C hW_17 hp f (nI_clamp (by omega)) (vp_in_nI hf (by decide)) dX4_ingotComesFirst_44 ?_
    refine g_massesN C hW_17 (mix_ing (G := G) hp hf) (hwc hwX3) nw_21 dX4_ingotComesFirst_45 ?_
    refine lv_iconst (v := 0) hx hb dX4_ingotComesFirst_48 (by decide) ?_
    refine g_mld C hW_17 (mix_ing (G := G) hp hf) 0 (by decide) (vlit (by decide)) dX4_ingotComesFirst_49 ?_
    refine lv_topi (fun v_24 ev_24 => ?_)
    refine lv_istore (lv' := [(5, .int v_24), (4, .int v_20), (3, .int v_9), (0, .ref (ad G (65 * n + 0))), (1, .int (nI f)), (2, .int (nI g))]) hx hb dX4_ingotComesFirst_50 hl_22 (by decide) rfl (fun ls_25 hl_26 => ?_)
    refine lv_aload_n hx hb dX4_ingotComesFirst_52 rfl (lv_at hl_26 3 rfl) ?_
    refine gP_ingots C hW_17 hp (hwc hwX4) (mc qw_167) dX4_ingotComesFirst_53 ?_
    refine lv_iload_n hx hb dX4_ingotComesFirst_56 rfl (lv_at hl_26 5 rfl) ?_
    refine g_ing C hW_17 hp g (nI_clamp (by omega)) (vp_in_nI hg (by decide)) dX4_ingotComesFirst_57 ?_
    refine g_massesN C hW_17 (mix_ing (G := G) hp hg) (hwc hwX3) nw_21 dX4_ingotComesFirst_58 ?_
    refine lv_iconst (v := 0) hx hb dX4_ingotComesFirst_61 (by decide) ?_
    refine g_mld C hW_17 (mix_ing (G := G) hp hg) 0 (by decide) (vlit (by decide)) dX4_ingotComesFirst_62 ?_
    refine lv_topi (fun v_27 ev_27 => ?_)
    refine lv_istore (lv' := [(6, .int v_27), (5, .int v_24), (4, .int v_20), (3, .int v_9), (0, .ref (ad G (65 * n + 0))), (1, .int (nI f)), (2, .int (nI g))]) hx hb dX4_ingotComesFirst_63 hl_26 (by decide) rfl (fun ls_28 hl_29 => ?_)
    refine lv_iload hx hb dX4_ingotComesFirst_65 (lv_at hl_29 1 rfl) ?_
    refine lv_iload hx hb dX4_ingotComesFirst_67 (lv_at hl_29 0 rfl) ?_
    refine lv_icmp_eq (tgt := 87) hx hb dX4_ingotComesFirst_69 (by decide) (fun b_30 => ?_) (fun b_30 => ?_)
    · refine lv_iload_n hx hb dX4_ingotComesFirst_87 rfl (lv_at hl_29 5 rfl) ?_
      refine lv_iload_n hx hb dX4_ingotComesFirst_88 rfl (lv_at hl_29 6 rfl) ?_
      refine lv_icmp_ge (tgt := 96) hx hb dX4_ingotComesFirst_89 (by decide) (fun b_31 => ?_) (fun b_31 => ?_)
      · refine lv_iconst (v := 0) hx hb dX4_ingotComesFirst_96 (by decide) ?_
        exact g_zret C hr hlk hW_17 hS_18 dX4_ingotComesFirst_97 rfl (by subst ev_27; subst ev_24; subst ev_20; subst ev_9; exact ⟨by simp only [icfW, b_23, b_30, b_31, if_true, if_false], rfl⟩)
      · refine lv_iconst (v := 1) hx hb dX4_ingotComesFirst_92 (by decide) ?_
        refine lv_goto (tgt := 97) hx hb dX4_ingotComesFirst_93 (by decide) ?_
        exact g_zret C hr hlk hW_17 hS_18 dX4_ingotComesFirst_97 rfl (by subst ev_27; subst ev_24; subst ev_20; subst ev_9; exact ⟨by simp only [icfW, b_23, b_30, b_31, if_true, if_false], rfl⟩)
    · refine lv_iload hx hb dX4_ingotComesFirst_72 (lv_at hl_29 1 rfl) ?_
      refine lv_iload hx hb dX4_ingotComesFirst_74 (lv_at hl_29 0 rfl) ?_
      refine lv_icmp_le (tgt := 83) hx hb dX4_ingotComesFirst_76 (by decide) (fun b_32 => ?_) (fun b_32 => ?_)
      · refine lv_iconst (v := 0) hx hb dX4_ingotComesFirst_83 (by decide) ?_
        refine lv_goto (tgt := 97) hx hb dX4_ingotComesFirst_84 (by decide) ?_
        exact g_zret C hr hlk hW_17 hS_18 dX4_ingotComesFirst_97 rfl (by subst ev_27; subst ev_24; subst ev_20; subst ev_9; exact ⟨by simp only [icfW, b_23, b_30, b_32, if_true, if_false], rfl⟩)
      · refine lv_iconst (v := 1) hx hb dX4_ingotComesFirst_79 (by decide) ?_
        refine lv_goto (tgt := 97) hx hb dX4_ingotComesFirst_80 (by decide) ?_
        exact g_zret C hr hlk hW_17 hS_18 dX4_ingotComesFirst_97 rfl (by subst ev_27; subst ev_24; subst ev_20; subst ev_9; exact ⟨by simp only [icfW, b_23, b_30, b_32, if_true, if_false], rfl⟩)
  · refine lv_iload_n hx hb dX4_ingotComesFirst_27 rfl (lv_at hl_22 1 rfl) ?_
    refine lv_iload hx hb dX4_ingotComesFirst_28 (lv_at hl_22 0 rfl) ?_
    refine lv_icmp_le (tgt := 37) hx hb dX4_ingotComesFirst_30 (by decide) (fun b_33 => ?_) (fun b_33 => ?_)
    · refine lv_iconst (v := 0) hx hb dX4_ingotComesFirst_37 (by decide) ?_
      exact g_zret C hr hlk hW_17 hS_18 dX4_ingotComesFirst_38 rfl (by subst ev_20; subst ev_9; exact ⟨by simp only [icfW, b_23, b_33, if_true, if_false], rfl⟩)
    · refine lv_iconst (v := 1) hx hb dX4_ingotComesFirst_33 (by decide) ?_
      refine lv_goto (tgt := 38) hx hb dX4_ingotComesFirst_34 (by decide) ?_
      exact g_zret C hr hlk hW_17 hS_18 dX4_ingotComesFirst_38 rfl (by subst ev_20; subst ev_9; exact ⟨by simp only [icfW, b_23, b_33, if_true, if_false], rfl⟩)

set_option maxHeartbeats 4000000 in
set_option maxRecDepth 100000 in
theorem cX4_rankOfIngot_ok (l : Launch) (G : GT) (X : St) (n : Nat) (hp : n < 11) (hi : PInv (X.1 n)) (f : Nat) (hf : f < 12) : MetI l G yX4_rankOfIngot (wsG yX4_rankOfIngot cX4_rankOfIngot 4 (some .int)) (rmz 2 48) [.ref (ad G (65 * n + 0)), .int (nI f)] X (fun res Y => res = nI (rankIL (X.1 n) f (X.1 n 43).toNatClampNeg) ∧ Y = X) := by
  refine g_met (cc := cX4_rankOfIngot) (maxL := 4) (ret := (some .int)) (by decide) rfl (Nat.le_of_ble_eq_true rfl) ?_
  intro p e s m below meth c ls C hr hlk hnm hW hl
  have hx := C.1.1
  have hb := C.1.2.1
  have hS : va_S (Ab G) s.heap s.heap [] := va_S.rf
  have hl : lv_has ls 4 [(0, .ref (ad G (65 * n + 0))), (1, .int (nI f))] := hl
  obtain ⟨⟨km, hkm, em⟩, ⟨ki, hki, ei⟩⟩ := hi
  refine lv_iconst (v := 0) hx hb dX4_rankOfIngot_0 (by decide) ?_
  refine lv_istore_n (lv' := [(2, .int 0), (0, .ref (ad G (65 * n + 0))), (1, .int (nI f))]) hx hb dX4_rankOfIngot_1 rfl hl (by decide) rfl (fun ls_1 hl_2 => ?_)
  refine lv_iconst (v := 0) hx hb dX4_rankOfIngot_2 (by decide) ?_
  refine lv_istore_n (lv' := [(3, .int 0), (2, .int 0), (0, .ref (ad G (65 * n + 0))), (1, .int (nI f))]) hx hb dX4_rankOfIngot_3 rfl hl_2 (by decide) rfl (fun ls_3 hl_4 => ?_)
  have loop : ∀ (q : Nat) (kk rk : Nat) (H : Heap) (locs : List Loc) (ls : Array Slot), kk + q = ki → rk = rankIL (X.1 n) f kk → rk ≤ kk → Wd G (X) H → va_S (Ab G) s.heap H locs → lv_has ls 4 [(3, .int (nI kk)), (2, .int (nI rk)), (0, .ref (ad G (65 * n + 0))), (1, .int (nI f))] → W p l e (rmz 2 48) s m ([.ref (ad G (65 * n + 0)), .int (nI f)] : List Value).toArray below meth c H locs 0 0 (MQ below (Ki G (fun res Y => res = nI (rankIL (X.1 n) f (X.1 n 43).toNatClampNeg) ∧ Y = X)) ([.ref (ad G (65 * n + 0)), .int (nI f)] : List Value).toArray s 0 0 (Ab G)) (F0 m 4 ls []) := by
    intro q
    induction q with
    | zero =>
      intro kk rk H locs ls hq hrk hrl hW hS hl
      refine lv_iload_n hx hb dX4_rankOfIngot_4 rfl (lv_at hl 0 rfl) ?_
      refine lv_aload_n hx hb dX4_rankOfIngot_5 rfl (lv_at hl 2 rfl) ?_
      refine gP_ingotCount C hW hp (hwc hwX4) (mc qw_169) dX4_rankOfIngot_6 ?_
      refine g_top (y := nI ki) ei ?_
      refine lv_icmp_ge (tgt := 35) hx hb dX4_rankOfIngot_9 (by decide) (fun _ => ?_) (fun h9 => absurd (nI_le (by omega) (by omega)) h9)
      refine lv_iload_n hx hb dX4_rankOfIngot_35 rfl (lv_at hl 1 rfl) ?_
      exact g_iret C hr hlk hW hS dX4_rankOfIngot_36 ⟨by rw [ei, clf (show ki < 2 ^ 31 by omega), hrk, show kk = ki by omega], rfl⟩
    | succ q ih =>
      intro kk rk H locs ls hq hrk hrl hW hS hl
      refine lv_iload_n hx hb dX4_rankOfIngot_4 rfl (lv_at hl 0 rfl) ?_
      refine lv_aload_n hx hb dX4_rankOfIngot_5 rfl (lv_at hl 2 rfl) ?_
      refine gP_ingotCount C hW hp (hwc hwX4) (mc qw_169) dX4_rankOfIngot_6 ?_
      refine g_top (y := nI ki) ei ?_
      refine lv_icmp_ge (tgt := 35) hx hb dX4_rankOfIngot_9 (by decide) (fun h9 => absurd h9 (nI_ge (by omega) (by omega))) (fun _ => ?_)
      refine lv_iload_n hx hb dX4_rankOfIngot_12 rfl (lv_at hl 0 rfl) ?_
      refine lv_iload_n hx hb dX4_rankOfIngot_13 rfl (lv_at hl 3 rfl) ?_
      refine lv_icmp_eq (tgt := 29) hx hb dX4_rankOfIngot_14 (by decide) (fun b_5 => ?_) (fun b_5 => ?_)
      · refine lv_iinc (v := nI (kk + 1)) (lv' := [(3, .int (nI (kk + 1))), (2, .int (nI rk)), (0, .ref (ad G (65 * n + 0))), (1, .int (nI f))]) hx hb dX4_rankOfIngot_29 hl (k := 0) rfl (nI_1 kk) (by decide) rfl (fun ls_6 hl_7 => ?_)
        refine lv_goto (tgt := 4) hx hb dX4_rankOfIngot_32 (by decide) ?_
        exact ih (kk + 1) (rk) H locs ls_6 (by omega) (by rw [hrk]; simp only [rankIL, b_5, if_true, if_false]) (by omega) hW hS (lv_sub hl_7 [0, 1, 2, 3] rfl)
      · refine lv_aload_n hx hb dX4_rankOfIngot_17 rfl (lv_at hl 2 rfl) ?_
        refine lv_iload_n hx hb dX4_rankOfIngot_18 rfl (lv_at hl 0 rfl) ?_
        refine lv_iload_n hx hb dX4_rankOfIngot_19 rfl (lv_at hl 3 rfl) ?_
        refine g_calli (va_runV (As := [.int (nI kk), .int (nI f)]) (rest := []) C.1 (cX4_ingotComesFirst_ok l G X n hp kk (show kk < 12 by omega) f hf) (cwV 2 C.1.2.2.2.2 (gV qw_1254 qw_1256 qw_18 qw_72 qw_1257) rfl rfl rfl (by decide +kernel) ⟨Nat.le_of_ble_eq_true rfl, Nat.le_of_ble_eq_true rfl⟩) (g_rPlant C hW hS hp [.int (nI kk), .int (nI f)]) rfl rfl hl.1 rfl (lv_room (Nat.le_of_ble_eq_true rfl)) dX4_rankOfIngot_20 ⟨Nat.zero_le _, Nat.zero_le _⟩) hS (fun r_9 Y_10 H_11 locs_12 hW_13 hS_14 h_8 => ?_)
        obtain ⟨h_8, hy_15⟩ := h_8
        replace hy_15 := hy_15.symm
        subst hy_15
        subst h_8
        refine lv_if_eq (tgt := 29) hx hb dX4_rankOfIngot_23 (by decide) (fun b_16 => ?_) (fun b_16 => ?_)
        · refine lv_iinc (v := nI (kk + 1)) (lv' := [(3, .int (nI (kk + 1))), (2, .int (nI rk)), (0, .ref (ad G (65 * n + 0))), (1, .int (nI f))]) hx hb dX4_rankOfIngot_29 hl (k := 0) rfl (nI_1 kk) (by decide) rfl (fun ls_17 hl_18 => ?_)
          refine lv_goto (tgt := 4) hx hb dX4_rankOfIngot_32 (by decide) ?_
          exact ih (kk + 1) (rk) H_11 locs_12 ls_17 (by omega) (by rw [hrk]; simp only [rankIL, b_5, b_16, if_true, if_false]) (by omega) hW_13 hS_14 (lv_sub hl_18 [0, 1, 2, 3] rfl)
        · refine lv_iinc (v := nI (rk + 1)) (lv' := [(2, .int (nI (rk + 1))), (3, .int (nI kk)), (0, .ref (ad G (65 * n + 0))), (1, .int (nI f))]) hx hb dX4_rankOfIngot_26 hl (k := 1) rfl (nI_1 rk) (by decide) rfl (fun ls_19 hl_20 => ?_)
          refine lv_iinc (v := nI (kk + 1)) (lv' := [(3, .int (nI (kk + 1))), (2, .int (nI (rk + 1))), (0, .ref (ad G (65 * n + 0))), (1, .int (nI f))]) hx hb dX4_rankOfIngot_29 hl_20 (k := 1) rfl (nI_1 kk) (by decide) rfl (fun ls_21 hl_22 => ?_)
          refine lv_goto (tgt := 4) hx hb dX4_rankOfIngot_32 (by decide) ?_
          exact ih (kk + 1) (rk + 1) H_11 locs_12 ls_21 (by omega) (by rw [hrk]; simp only [rankIL, b_5, b_16, if_true, if_false]) (by omega) hW_13 hS_14 (lv_sub hl_22 [0, 1, 2, 3] rfl)
  exact loop ki 0 0 s.heap [] ls_3 (by omega) rfl (by omega) hW hS (lv_sub hl_4 [0, 1, 2, 3] rfl)

set_option maxHeartbeats 4000000 in
set_option maxRecDepth 100000 in
theorem cX4_rankOfFurnace0_ok (l : Launch) (G : GT) (X : St) (n : Nat) (hp : n < 11) : MetI l G yX4_rankOfFurnace (wsG yX4_rankOfFurnace cX4_rankOfFurnace 4 (some .int)) (rmz 2 46) [.ref (ad G (65 * n + 0)), .int 0] X (fun res Y => res = rankFW (X.1 n) 0 ∧ Y = X) := by
  refine g_met (cc := cX4_rankOfFurnace) (maxL := 4) (ret := (some .int)) (by decide) rfl (Nat.le_of_ble_eq_true rfl) ?_
  intro p e s m below meth c ls C hr hlk hnm hW hl
  have hx := C.1.1
  have hb := C.1.2.1
  have hS : va_S (Ab G) s.heap s.heap [] := va_S.rf
  have hl : lv_has ls 4 [(0, .ref (ad G (65 * n + 0))), (1, .int 0)] := hl
  refine lv_iconst (v := 0) hx hb dX4_rankOfFurnace_0 (by decide) ?_
  refine lv_istore_n (lv' := [(2, .int 0), (0, .ref (ad G (65 * n + 0))), (1, .int 0)]) hx hb dX4_rankOfFurnace_1 rfl hl (by decide) rfl (fun ls_1 hl_2 => ?_)
  refine lv_iconst (v := 0) hx hb dX4_rankOfFurnace_2 (by decide) ?_
  refine lv_istore_n (lv' := [(3, .int 0), (2, .int 0), (0, .ref (ad G (65 * n + 0))), (1, .int 0)]) hx hb dX4_rankOfFurnace_3 rfl hl_2 (by decide) rfl (fun ls_3 hl_4 => ?_)
  refine lv_iload_n hx hb dX4_rankOfFurnace_4 rfl (lv_at hl_4 0 rfl) ?_
  refine lv_iconst (v := 3) hx hb dX4_rankOfFurnace_5 (by decide) ?_
  refine lv_icmp_ge (tgt := 32) hx hb dX4_rankOfFurnace_6 (by decide) (fun h9 => absurd h9 (by decide)) (fun _ => ?_)
  refine lv_iload_n hx hb dX4_rankOfFurnace_9 rfl (lv_at hl_4 0 rfl) ?_
  refine lv_iload_n hx hb dX4_rankOfFurnace_10 rfl (lv_at hl_4 3 rfl) ?_
  refine lv_icmp_eq (tgt := 26) hx hb dX4_rankOfFurnace_11 (by decide) (fun _ => ?_) (fun h9 => absurd h9 (by decide))
  refine lv_iinc (v := 1) (lv' := [(3, .int 1), (2, .int 0), (0, .ref (ad G (65 * n + 0))), (1, .int 0)]) hx hb dX4_rankOfFurnace_26 hl_4 (k := 0) rfl (by decide) (by decide) rfl (fun ls_5 hl_6 => ?_)
  refine lv_goto (tgt := 4) hx hb dX4_rankOfFurnace_29 (by decide) ?_
  refine lv_iload_n hx hb dX4_rankOfFurnace_4 rfl (lv_at hl_6 0 rfl) ?_
  refine lv_iconst (v := 3) hx hb dX4_rankOfFurnace_5 (by decide) ?_
  refine lv_icmp_ge (tgt := 32) hx hb dX4_rankOfFurnace_6 (by decide) (fun h9 => absurd h9 (by decide)) (fun _ => ?_)
  refine lv_iload_n hx hb dX4_rankOfFurnace_9 rfl (lv_at hl_6 0 rfl) ?_
  refine lv_iload_n hx hb dX4_rankOfFurnace_10 rfl (lv_at hl_6 3 rfl) ?_
  refine lv_icmp_eq (tgt := 26) hx hb dX4_rankOfFurnace_11 (by decide) (fun h9 => absurd h9 (by decide)) (fun _ => ?_)
  refine lv_aload_n hx hb dX4_rankOfFurnace_14 rfl (lv_at hl_6 2 rfl) ?_
  refine lv_iload_n hx hb dX4_rankOfFurnace_15 rfl (lv_at hl_6 0 rfl) ?_
  refine lv_iload_n hx hb dX4_rankOfFurnace_16 rfl (lv_at hl_6 3 rfl) ?_
  refine g_calli (va_runV (As := [.int 1, .int 0]) (rest := []) C.1 (cX4_furnaceComesFirst_ok l G X n hp 1 (by decide) 0 (by decide)) (cwV 2 C.1.2.2.2.2 (gV qw_1168 qw_1170 qw_17 qw_72 qw_1171) rfl rfl rfl (by decide +kernel) ⟨Nat.le_of_ble_eq_true rfl, Nat.le_of_ble_eq_true rfl⟩) (g_rPlant C hW hS hp [.int 1, .int 0]) rfl rfl hl_6.1 rfl (lv_room (Nat.le_of_ble_eq_true rfl)) dX4_rankOfFurnace_17 ⟨Nat.zero_le _, Nat.zero_le _⟩) hS (fun r_8 Y_9 H_10 locs_11 hW_12 hS_13 h_7 => ?_)
  obtain ⟨h_7, hy_14⟩ := h_7
  replace hy_14 := hy_14.symm
  subst hy_14
  subst h_7
  refine lv_if_eq (tgt := 26) hx hb dX4_rankOfFurnace_20 (by decide) (fun b_15 => ?_) (fun b_15 => ?_)
  · refine lv_iinc (v := 2) (lv' := [(3, .int 2), (2, .int 0), (0, .ref (ad G (65 * n + 0))), (1, .int 0)]) hx hb dX4_rankOfFurnace_26 hl_6 (k := 0) rfl (by decide) (by decide) rfl (fun ls_16 hl_17 => ?_)
    refine lv_goto (tgt := 4) hx hb dX4_rankOfFurnace_29 (by decide) ?_
    refine lv_iload_n hx hb dX4_rankOfFurnace_4 rfl (lv_at hl_17 0 rfl) ?_
    refine lv_iconst (v := 3) hx hb dX4_rankOfFurnace_5 (by decide) ?_
    refine lv_icmp_ge (tgt := 32) hx hb dX4_rankOfFurnace_6 (by decide) (fun h9 => absurd h9 (by decide)) (fun _ => ?_)
    refine lv_iload_n hx hb dX4_rankOfFurnace_9 rfl (lv_at hl_17 0 rfl) ?_
    refine lv_iload_n hx hb dX4_rankOfFurnace_10 rfl (lv_at hl_17 3 rfl) ?_
    refine lv_icmp_eq (tgt := 26) hx hb dX4_rankOfFurnace_11 (by decide) (fun h9 => absurd h9 (by decide)) (fun _ => ?_)
    refine lv_aload_n hx hb dX4_rankOfFurnace_14 rfl (lv_at hl_17 2 rfl) ?_
    refine lv_iload_n hx hb dX4_rankOfFurnace_15 rfl (lv_at hl_17 0 rfl) ?_
    refine lv_iload_n hx hb dX4_rankOfFurnace_16 rfl (lv_at hl_17 3 rfl) ?_
    refine g_calli (va_runV (As := [.int 2, .int 0]) (rest := []) C.1 (cX4_furnaceComesFirst_ok l G X n hp 2 (by decide) 0 (by decide)) (cwV 2 C.1.2.2.2.2 (gV qw_1168 qw_1170 qw_17 qw_72 qw_1171) rfl rfl rfl (by decide +kernel) ⟨Nat.le_of_ble_eq_true rfl, Nat.le_of_ble_eq_true rfl⟩) (g_rPlant C hW_12 hS_13 hp [.int 2, .int 0]) rfl rfl hl_17.1 rfl (lv_room (Nat.le_of_ble_eq_true rfl)) dX4_rankOfFurnace_17 ⟨Nat.zero_le _, Nat.zero_le _⟩) hS_13 (fun r_19 Y_20 H_21 locs_22 hW_23 hS_24 h_18 => ?_)
    obtain ⟨h_18, hy_25⟩ := h_18
    replace hy_25 := hy_25.symm
    subst hy_25
    subst h_18
    refine lv_if_eq (tgt := 26) hx hb dX4_rankOfFurnace_20 (by decide) (fun b_26 => ?_) (fun b_26 => ?_)
    · refine lv_iinc (v := 3) (lv' := [(3, .int 3), (2, .int 0), (0, .ref (ad G (65 * n + 0))), (1, .int 0)]) hx hb dX4_rankOfFurnace_26 hl_17 (k := 0) rfl (by decide) (by decide) rfl (fun ls_27 hl_28 => ?_)
      refine lv_goto (tgt := 4) hx hb dX4_rankOfFurnace_29 (by decide) ?_
      refine lv_iload_n hx hb dX4_rankOfFurnace_4 rfl (lv_at hl_28 0 rfl) ?_
      refine lv_iconst (v := 3) hx hb dX4_rankOfFurnace_5 (by decide) ?_
      refine lv_icmp_ge (tgt := 32) hx hb dX4_rankOfFurnace_6 (by decide) (fun _ => ?_) (fun h9 => absurd h9 (by decide))
      refine lv_iload_n hx hb dX4_rankOfFurnace_32 rfl (lv_at hl_28 1 rfl) ?_
      exact g_iret C hr hlk hW_23 hS_24 dX4_rankOfFurnace_33 (by exact ⟨by simp only [rankFW, b_15, b_26, if_true, if_false]; first | done | rfl | decide, rfl⟩)
    · refine lv_iinc (v := 1) (lv' := [(2, .int 1), (3, .int 2), (0, .ref (ad G (65 * n + 0))), (1, .int 0)]) hx hb dX4_rankOfFurnace_23 hl_17 (k := 1) rfl (by decide) (by decide) rfl (fun ls_29 hl_30 => ?_)
      refine lv_iinc (v := 3) (lv' := [(3, .int 3), (2, .int 1), (0, .ref (ad G (65 * n + 0))), (1, .int 0)]) hx hb dX4_rankOfFurnace_26 hl_30 (k := 1) rfl (by decide) (by decide) rfl (fun ls_31 hl_32 => ?_)
      refine lv_goto (tgt := 4) hx hb dX4_rankOfFurnace_29 (by decide) ?_
      refine lv_iload_n hx hb dX4_rankOfFurnace_4 rfl (lv_at hl_32 0 rfl) ?_
      refine lv_iconst (v := 3) hx hb dX4_rankOfFurnace_5 (by decide) ?_
      refine lv_icmp_ge (tgt := 32) hx hb dX4_rankOfFurnace_6 (by decide) (fun _ => ?_) (fun h9 => absurd h9 (by decide))
      refine lv_iload_n hx hb dX4_rankOfFurnace_32 rfl (lv_at hl_32 1 rfl) ?_
      exact g_iret C hr hlk hW_23 hS_24 dX4_rankOfFurnace_33 (by exact ⟨by simp only [rankFW, b_15, b_26, if_true, if_false]; first | done | rfl | decide, rfl⟩)
  · refine lv_iinc (v := 1) (lv' := [(2, .int 1), (3, .int 1), (0, .ref (ad G (65 * n + 0))), (1, .int 0)]) hx hb dX4_rankOfFurnace_23 hl_6 (k := 1) rfl (by decide) (by decide) rfl (fun ls_33 hl_34 => ?_)
    refine lv_iinc (v := 2) (lv' := [(3, .int 2), (2, .int 1), (0, .ref (ad G (65 * n + 0))), (1, .int 0)]) hx hb dX4_rankOfFurnace_26 hl_34 (k := 1) rfl (by decide) (by decide) rfl (fun ls_35 hl_36 => ?_)
    refine lv_goto (tgt := 4) hx hb dX4_rankOfFurnace_29 (by decide) ?_
    refine lv_iload_n hx hb dX4_rankOfFurnace_4 rfl (lv_at hl_36 0 rfl) ?_
    refine lv_iconst (v := 3) hx hb dX4_rankOfFurnace_5 (by decide) ?_
    refine lv_icmp_ge (tgt := 32) hx hb dX4_rankOfFurnace_6 (by decide) (fun h9 => absurd h9 (by decide)) (fun _ => ?_)
    refine lv_iload_n hx hb dX4_rankOfFurnace_9 rfl (lv_at hl_36 0 rfl) ?_
    refine lv_iload_n hx hb dX4_rankOfFurnace_10 rfl (lv_at hl_36 3 rfl) ?_
    refine lv_icmp_eq (tgt := 26) hx hb dX4_rankOfFurnace_11 (by decide) (fun h9 => absurd h9 (by decide)) (fun _ => ?_)
    refine lv_aload_n hx hb dX4_rankOfFurnace_14 rfl (lv_at hl_36 2 rfl) ?_
    refine lv_iload_n hx hb dX4_rankOfFurnace_15 rfl (lv_at hl_36 0 rfl) ?_
    refine lv_iload_n hx hb dX4_rankOfFurnace_16 rfl (lv_at hl_36 3 rfl) ?_
    refine g_calli (va_runV (As := [.int 2, .int 0]) (rest := []) C.1 (cX4_furnaceComesFirst_ok l G X n hp 2 (by decide) 0 (by decide)) (cwV 2 C.1.2.2.2.2 (gV qw_1168 qw_1170 qw_17 qw_72 qw_1171) rfl rfl rfl (by decide +kernel) ⟨Nat.le_of_ble_eq_true rfl, Nat.le_of_ble_eq_true rfl⟩) (g_rPlant C hW_12 hS_13 hp [.int 2, .int 0]) rfl rfl hl_36.1 rfl (lv_room (Nat.le_of_ble_eq_true rfl)) dX4_rankOfFurnace_17 ⟨Nat.zero_le _, Nat.zero_le _⟩) hS_13 (fun r_38 Y_39 H_40 locs_41 hW_42 hS_43 h_37 => ?_)
    obtain ⟨h_37, hy_44⟩ := h_37
    replace hy_44 := hy_44.symm
    subst hy_44
    subst h_37
    refine lv_if_eq (tgt := 26) hx hb dX4_rankOfFurnace_20 (by decide) (fun b_45 => ?_) (fun b_45 => ?_)
    · refine lv_iinc (v := 3) (lv' := [(3, .int 3), (2, .int 1), (0, .ref (ad G (65 * n + 0))), (1, .int 0)]) hx hb dX4_rankOfFurnace_26 hl_36 (k := 0) rfl (by decide) (by decide) rfl (fun ls_46 hl_47 => ?_)
      refine lv_goto (tgt := 4) hx hb dX4_rankOfFurnace_29 (by decide) ?_
      refine lv_iload_n hx hb dX4_rankOfFurnace_4 rfl (lv_at hl_47 0 rfl) ?_
      refine lv_iconst (v := 3) hx hb dX4_rankOfFurnace_5 (by decide) ?_
      refine lv_icmp_ge (tgt := 32) hx hb dX4_rankOfFurnace_6 (by decide) (fun _ => ?_) (fun h9 => absurd h9 (by decide))
      refine lv_iload_n hx hb dX4_rankOfFurnace_32 rfl (lv_at hl_47 1 rfl) ?_
      exact g_iret C hr hlk hW_42 hS_43 dX4_rankOfFurnace_33 (by exact ⟨by simp only [rankFW, b_15, b_45, if_true, if_false]; first | done | rfl | decide, rfl⟩)
    · refine lv_iinc (v := 2) (lv' := [(2, .int 2), (3, .int 2), (0, .ref (ad G (65 * n + 0))), (1, .int 0)]) hx hb dX4_rankOfFurnace_23 hl_36 (k := 1) rfl (by decide) (by decide) rfl (fun ls_48 hl_49 => ?_)
      refine lv_iinc (v := 3) (lv' := [(3, .int 3), (2, .int 2), (0, .ref (ad G (65 * n + 0))), (1, .int 0)]) hx hb dX4_rankOfFurnace_26 hl_49 (k := 1) rfl (by decide) (by decide) rfl (fun ls_50 hl_51 => ?_)
      refine lv_goto (tgt := 4) hx hb dX4_rankOfFurnace_29 (by decide) ?_
      refine lv_iload_n hx hb dX4_rankOfFurnace_4 rfl (lv_at hl_51 0 rfl) ?_
      refine lv_iconst (v := 3) hx hb dX4_rankOfFurnace_5 (by decide) ?_
      refine lv_icmp_ge (tgt := 32) hx hb dX4_rankOfFurnace_6 (by decide) (fun _ => ?_) (fun h9 => absurd h9 (by decide))
      refine lv_iload_n hx hb dX4_rankOfFurnace_32 rfl (lv_at hl_51 1 rfl) ?_
      exact g_iret C hr hlk hW_42 hS_43 dX4_rankOfFurnace_33 (by exact ⟨by simp only [rankFW, b_15, b_45, if_true, if_false]; first | done | rfl | decide, rfl⟩)

set_option maxHeartbeats 4000000 in
set_option maxRecDepth 100000 in
theorem cX4_rankOfFurnace1_ok (l : Launch) (G : GT) (X : St) (n : Nat) (hp : n < 11) : MetI l G yX4_rankOfFurnace (wsG yX4_rankOfFurnace cX4_rankOfFurnace 4 (some .int)) (rmz 2 46) [.ref (ad G (65 * n + 0)), .int 1] X (fun res Y => res = rankFW (X.1 n) 1 ∧ Y = X) := by
  refine g_met (cc := cX4_rankOfFurnace) (maxL := 4) (ret := (some .int)) (by decide) rfl (Nat.le_of_ble_eq_true rfl) ?_
  intro p e s m below meth c ls C hr hlk hnm hW hl
  have hx := C.1.1
  have hb := C.1.2.1
  have hS : va_S (Ab G) s.heap s.heap [] := va_S.rf
  have hl : lv_has ls 4 [(0, .ref (ad G (65 * n + 0))), (1, .int 1)] := hl
  refine lv_iconst (v := 0) hx hb dX4_rankOfFurnace_0 (by decide) ?_
  refine lv_istore_n (lv' := [(2, .int 0), (0, .ref (ad G (65 * n + 0))), (1, .int 1)]) hx hb dX4_rankOfFurnace_1 rfl hl (by decide) rfl (fun ls_1 hl_2 => ?_)
  refine lv_iconst (v := 0) hx hb dX4_rankOfFurnace_2 (by decide) ?_
  refine lv_istore_n (lv' := [(3, .int 0), (2, .int 0), (0, .ref (ad G (65 * n + 0))), (1, .int 1)]) hx hb dX4_rankOfFurnace_3 rfl hl_2 (by decide) rfl (fun ls_3 hl_4 => ?_)
  refine lv_iload_n hx hb dX4_rankOfFurnace_4 rfl (lv_at hl_4 0 rfl) ?_
  refine lv_iconst (v := 3) hx hb dX4_rankOfFurnace_5 (by decide) ?_
  refine lv_icmp_ge (tgt := 32) hx hb dX4_rankOfFurnace_6 (by decide) (fun h9 => absurd h9 (by decide)) (fun _ => ?_)
  refine lv_iload_n hx hb dX4_rankOfFurnace_9 rfl (lv_at hl_4 0 rfl) ?_
  refine lv_iload_n hx hb dX4_rankOfFurnace_10 rfl (lv_at hl_4 3 rfl) ?_
  refine lv_icmp_eq (tgt := 26) hx hb dX4_rankOfFurnace_11 (by decide) (fun h9 => absurd h9 (by decide)) (fun _ => ?_)
  refine lv_aload_n hx hb dX4_rankOfFurnace_14 rfl (lv_at hl_4 2 rfl) ?_
  refine lv_iload_n hx hb dX4_rankOfFurnace_15 rfl (lv_at hl_4 0 rfl) ?_
  refine lv_iload_n hx hb dX4_rankOfFurnace_16 rfl (lv_at hl_4 3 rfl) ?_
  refine g_calli (va_runV (As := [.int 0, .int 1]) (rest := []) C.1 (cX4_furnaceComesFirst_ok l G X n hp 0 (by decide) 1 (by decide)) (cwV 2 C.1.2.2.2.2 (gV qw_1168 qw_1170 qw_17 qw_72 qw_1171) rfl rfl rfl (by decide +kernel) ⟨Nat.le_of_ble_eq_true rfl, Nat.le_of_ble_eq_true rfl⟩) (g_rPlant C hW hS hp [.int 0, .int 1]) rfl rfl hl_4.1 rfl (lv_room (Nat.le_of_ble_eq_true rfl)) dX4_rankOfFurnace_17 ⟨Nat.zero_le _, Nat.zero_le _⟩) hS (fun r_6 Y_7 H_8 locs_9 hW_10 hS_11 h_5 => ?_)
  obtain ⟨h_5, hy_12⟩ := h_5
  replace hy_12 := hy_12.symm
  subst hy_12
  subst h_5
  refine lv_if_eq (tgt := 26) hx hb dX4_rankOfFurnace_20 (by decide) (fun b_13 => ?_) (fun b_13 => ?_)
  · refine lv_iinc (v := 1) (lv' := [(3, .int 1), (2, .int 0), (0, .ref (ad G (65 * n + 0))), (1, .int 1)]) hx hb dX4_rankOfFurnace_26 hl_4 (k := 0) rfl (by decide) (by decide) rfl (fun ls_14 hl_15 => ?_)
    refine lv_goto (tgt := 4) hx hb dX4_rankOfFurnace_29 (by decide) ?_
    refine lv_iload_n hx hb dX4_rankOfFurnace_4 rfl (lv_at hl_15 0 rfl) ?_
    refine lv_iconst (v := 3) hx hb dX4_rankOfFurnace_5 (by decide) ?_
    refine lv_icmp_ge (tgt := 32) hx hb dX4_rankOfFurnace_6 (by decide) (fun h9 => absurd h9 (by decide)) (fun _ => ?_)
    refine lv_iload_n hx hb dX4_rankOfFurnace_9 rfl (lv_at hl_15 0 rfl) ?_
    refine lv_iload_n hx hb dX4_rankOfFurnace_10 rfl (lv_at hl_15 3 rfl) ?_
    refine lv_icmp_eq (tgt := 26) hx hb dX4_rankOfFurnace_11 (by decide) (fun _ => ?_) (fun h9 => absurd h9 (by decide))
    refine lv_iinc (v := 2) (lv' := [(3, .int 2), (2, .int 0), (0, .ref (ad G (65 * n + 0))), (1, .int 1)]) hx hb dX4_rankOfFurnace_26 hl_15 (k := 0) rfl (by decide) (by decide) rfl (fun ls_16 hl_17 => ?_)
    refine lv_goto (tgt := 4) hx hb dX4_rankOfFurnace_29 (by decide) ?_
    refine lv_iload_n hx hb dX4_rankOfFurnace_4 rfl (lv_at hl_17 0 rfl) ?_
    refine lv_iconst (v := 3) hx hb dX4_rankOfFurnace_5 (by decide) ?_
    refine lv_icmp_ge (tgt := 32) hx hb dX4_rankOfFurnace_6 (by decide) (fun h9 => absurd h9 (by decide)) (fun _ => ?_)
    refine lv_iload_n hx hb dX4_rankOfFurnace_9 rfl (lv_at hl_17 0 rfl) ?_
    refine lv_iload_n hx hb dX4_rankOfFurnace_10 rfl (lv_at hl_17 3 rfl) ?_
    refine lv_icmp_eq (tgt := 26) hx hb dX4_rankOfFurnace_11 (by decide) (fun h9 => absurd h9 (by decide)) (fun _ => ?_)
    refine lv_aload_n hx hb dX4_rankOfFurnace_14 rfl (lv_at hl_17 2 rfl) ?_
    refine lv_iload_n hx hb dX4_rankOfFurnace_15 rfl (lv_at hl_17 0 rfl) ?_
    refine lv_iload_n hx hb dX4_rankOfFurnace_16 rfl (lv_at hl_17 3 rfl) ?_
    refine g_calli (va_runV (As := [.int 2, .int 1]) (rest := []) C.1 (cX4_furnaceComesFirst_ok l G X n hp 2 (by decide) 1 (by decide)) (cwV 2 C.1.2.2.2.2 (gV qw_1168 qw_1170 qw_17 qw_72 qw_1171) rfl rfl rfl (by decide +kernel) ⟨Nat.le_of_ble_eq_true rfl, Nat.le_of_ble_eq_true rfl⟩) (g_rPlant C hW_10 hS_11 hp [.int 2, .int 1]) rfl rfl hl_17.1 rfl (lv_room (Nat.le_of_ble_eq_true rfl)) dX4_rankOfFurnace_17 ⟨Nat.zero_le _, Nat.zero_le _⟩) hS_11 (fun r_19 Y_20 H_21 locs_22 hW_23 hS_24 h_18 => ?_)
    obtain ⟨h_18, hy_25⟩ := h_18
    replace hy_25 := hy_25.symm
    subst hy_25
    subst h_18
    refine lv_if_eq (tgt := 26) hx hb dX4_rankOfFurnace_20 (by decide) (fun b_26 => ?_) (fun b_26 => ?_)
    · refine lv_iinc (v := 3) (lv' := [(3, .int 3), (2, .int 0), (0, .ref (ad G (65 * n + 0))), (1, .int 1)]) hx hb dX4_rankOfFurnace_26 hl_17 (k := 0) rfl (by decide) (by decide) rfl (fun ls_27 hl_28 => ?_)
      refine lv_goto (tgt := 4) hx hb dX4_rankOfFurnace_29 (by decide) ?_
      refine lv_iload_n hx hb dX4_rankOfFurnace_4 rfl (lv_at hl_28 0 rfl) ?_
      refine lv_iconst (v := 3) hx hb dX4_rankOfFurnace_5 (by decide) ?_
      refine lv_icmp_ge (tgt := 32) hx hb dX4_rankOfFurnace_6 (by decide) (fun _ => ?_) (fun h9 => absurd h9 (by decide))
      refine lv_iload_n hx hb dX4_rankOfFurnace_32 rfl (lv_at hl_28 1 rfl) ?_
      exact g_iret C hr hlk hW_23 hS_24 dX4_rankOfFurnace_33 (by exact ⟨by simp only [rankFW, b_13, b_26, if_true, if_false]; first | done | rfl | decide, rfl⟩)
    · refine lv_iinc (v := 1) (lv' := [(2, .int 1), (3, .int 2), (0, .ref (ad G (65 * n + 0))), (1, .int 1)]) hx hb dX4_rankOfFurnace_23 hl_17 (k := 1) rfl (by decide) (by decide) rfl (fun ls_29 hl_30 => ?_)
      refine lv_iinc (v := 3) (lv' := [(3, .int 3), (2, .int 1), (0, .ref (ad G (65 * n + 0))), (1, .int 1)]) hx hb dX4_rankOfFurnace_26 hl_30 (k := 1) rfl (by decide) (by decide) rfl (fun ls_31 hl_32 => ?_)
      refine lv_goto (tgt := 4) hx hb dX4_rankOfFurnace_29 (by decide) ?_
      refine lv_iload_n hx hb dX4_rankOfFurnace_4 rfl (lv_at hl_32 0 rfl) ?_
      refine lv_iconst (v := 3) hx hb dX4_rankOfFurnace_5 (by decide) ?_
      refine lv_icmp_ge (tgt := 32) hx hb dX4_rankOfFurnace_6 (by decide) (fun _ => ?_) (fun h9 => absurd h9 (by decide))
      refine lv_iload_n hx hb dX4_rankOfFurnace_32 rfl (lv_at hl_32 1 rfl) ?_
      exact g_iret C hr hlk hW_23 hS_24 dX4_rankOfFurnace_33 (by exact ⟨by simp only [rankFW, b_13, b_26, if_true, if_false]; first | done | rfl | decide, rfl⟩)
  · refine lv_iinc (v := 1) (lv' := [(2, .int 1), (3, .int 0), (0, .ref (ad G (65 * n + 0))), (1, .int 1)]) hx hb dX4_rankOfFurnace_23 hl_4 (k := 1) rfl (by decide) (by decide) rfl (fun ls_33 hl_34 => ?_)
    refine lv_iinc (v := 1) (lv' := [(3, .int 1), (2, .int 1), (0, .ref (ad G (65 * n + 0))), (1, .int 1)]) hx hb dX4_rankOfFurnace_26 hl_34 (k := 1) rfl (by decide) (by decide) rfl (fun ls_35 hl_36 => ?_)
    refine lv_goto (tgt := 4) hx hb dX4_rankOfFurnace_29 (by decide) ?_
    refine lv_iload_n hx hb dX4_rankOfFurnace_4 rfl (lv_at hl_36 0 rfl) ?_
    refine lv_iconst (v := 3) hx hb dX4_rankOfFurnace_5 (by decide) ?_
    refine lv_icmp_ge (tgt := 32) hx hb dX4_rankOfFurnace_6 (by decide) (fun h9 => absurd h9 (by decide)) (fun _ => ?_)
    refine lv_iload_n hx hb dX4_rankOfFurnace_9 rfl (lv_at hl_36 0 rfl) ?_
    refine lv_iload_n hx hb dX4_rankOfFurnace_10 rfl (lv_at hl_36 3 rfl) ?_
    refine lv_icmp_eq (tgt := 26) hx hb dX4_rankOfFurnace_11 (by decide) (fun _ => ?_) (fun h9 => absurd h9 (by decide))
    refine lv_iinc (v := 2) (lv' := [(3, .int 2), (2, .int 1), (0, .ref (ad G (65 * n + 0))), (1, .int 1)]) hx hb dX4_rankOfFurnace_26 hl_36 (k := 0) rfl (by decide) (by decide) rfl (fun ls_37 hl_38 => ?_)
    refine lv_goto (tgt := 4) hx hb dX4_rankOfFurnace_29 (by decide) ?_
    refine lv_iload_n hx hb dX4_rankOfFurnace_4 rfl (lv_at hl_38 0 rfl) ?_
    refine lv_iconst (v := 3) hx hb dX4_rankOfFurnace_5 (by decide) ?_
    refine lv_icmp_ge (tgt := 32) hx hb dX4_rankOfFurnace_6 (by decide) (fun h9 => absurd h9 (by decide)) (fun _ => ?_)
    refine lv_iload_n hx hb dX4_rankOfFurnace_9 rfl (lv_at hl_38 0 rfl) ?_
    refine lv_iload_n hx hb dX4_rankOfFurnace_10 rfl (lv_at hl_38 3 rfl) ?_
    refine lv_icmp_eq (tgt := 26) hx hb dX4_rankOfFurnace_11 (by decide) (fun h9 => absurd h9 (by decide)) (fun _ => ?_)
    refine lv_aload_n hx hb dX4_rankOfFurnace_14 rfl (lv_at hl_38 2 rfl) ?_
    refine lv_iload_n hx hb dX4_rankOfFurnace_15 rfl (lv_at hl_38 0 rfl) ?_
    refine lv_iload_n hx hb dX4_rankOfFurnace_16 rfl (lv_at hl_38 3 rfl) ?_
    refine g_calli (va_runV (As := [.int 2, .int 1]) (rest := []) C.1 (cX4_furnaceComesFirst_ok l G X n hp 2 (by decide) 1 (by decide)) (cwV 2 C.1.2.2.2.2 (gV qw_1168 qw_1170 qw_17 qw_72 qw_1171) rfl rfl rfl (by decide +kernel) ⟨Nat.le_of_ble_eq_true rfl, Nat.le_of_ble_eq_true rfl⟩) (g_rPlant C hW_10 hS_11 hp [.int 2, .int 1]) rfl rfl hl_38.1 rfl (lv_room (Nat.le_of_ble_eq_true rfl)) dX4_rankOfFurnace_17 ⟨Nat.zero_le _, Nat.zero_le _⟩) hS_11 (fun r_40 Y_41 H_42 locs_43 hW_44 hS_45 h_39 => ?_)
    obtain ⟨h_39, hy_46⟩ := h_39
    replace hy_46 := hy_46.symm
    subst hy_46
    subst h_39
    refine lv_if_eq (tgt := 26) hx hb dX4_rankOfFurnace_20 (by decide) (fun b_47 => ?_) (fun b_47 => ?_)
    · refine lv_iinc (v := 3) (lv' := [(3, .int 3), (2, .int 1), (0, .ref (ad G (65 * n + 0))), (1, .int 1)]) hx hb dX4_rankOfFurnace_26 hl_38 (k := 0) rfl (by decide) (by decide) rfl (fun ls_48 hl_49 => ?_)
      refine lv_goto (tgt := 4) hx hb dX4_rankOfFurnace_29 (by decide) ?_
      refine lv_iload_n hx hb dX4_rankOfFurnace_4 rfl (lv_at hl_49 0 rfl) ?_
      refine lv_iconst (v := 3) hx hb dX4_rankOfFurnace_5 (by decide) ?_
      refine lv_icmp_ge (tgt := 32) hx hb dX4_rankOfFurnace_6 (by decide) (fun _ => ?_) (fun h9 => absurd h9 (by decide))
      refine lv_iload_n hx hb dX4_rankOfFurnace_32 rfl (lv_at hl_49 1 rfl) ?_
      exact g_iret C hr hlk hW_44 hS_45 dX4_rankOfFurnace_33 (by exact ⟨by simp only [rankFW, b_13, b_47, if_true, if_false]; first | done | rfl | decide, rfl⟩)
    · refine lv_iinc (v := 2) (lv' := [(2, .int 2), (3, .int 2), (0, .ref (ad G (65 * n + 0))), (1, .int 1)]) hx hb dX4_rankOfFurnace_23 hl_38 (k := 1) rfl (by decide) (by decide) rfl (fun ls_50 hl_51 => ?_)
      refine lv_iinc (v := 3) (lv' := [(3, .int 3), (2, .int 2), (0, .ref (ad G (65 * n + 0))), (1, .int 1)]) hx hb dX4_rankOfFurnace_26 hl_51 (k := 1) rfl (by decide) (by decide) rfl (fun ls_52 hl_53 => ?_)
      refine lv_goto (tgt := 4) hx hb dX4_rankOfFurnace_29 (by decide) ?_
      refine lv_iload_n hx hb dX4_rankOfFurnace_4 rfl (lv_at hl_53 0 rfl) ?_
      refine lv_iconst (v := 3) hx hb dX4_rankOfFurnace_5 (by decide) ?_
      refine lv_icmp_ge (tgt := 32) hx hb dX4_rankOfFurnace_6 (by decide) (fun _ => ?_) (fun h9 => absurd h9 (by decide))
      refine lv_iload_n hx hb dX4_rankOfFurnace_32 rfl (lv_at hl_53 1 rfl) ?_
      exact g_iret C hr hlk hW_44 hS_45 dX4_rankOfFurnace_33 (by exact ⟨by simp only [rankFW, b_13, b_47, if_true, if_false]; first | done | rfl | decide, rfl⟩)

set_option maxHeartbeats 4000000 in
set_option maxRecDepth 100000 in
theorem cX4_rankOfFurnace2_ok (l : Launch) (G : GT) (X : St) (n : Nat) (hp : n < 11) : MetI l G yX4_rankOfFurnace (wsG yX4_rankOfFurnace cX4_rankOfFurnace 4 (some .int)) (rmz 2 46) [.ref (ad G (65 * n + 0)), .int 2] X (fun res Y => res = rankFW (X.1 n) 2 ∧ Y = X) := by
  refine g_met (cc := cX4_rankOfFurnace) (maxL := 4) (ret := (some .int)) (by decide) rfl (Nat.le_of_ble_eq_true rfl) ?_
  intro p e s m below meth c ls C hr hlk hnm hW hl
  have hx := C.1.1
  have hb := C.1.2.1
  have hS : va_S (Ab G) s.heap s.heap [] := va_S.rf
  have hl : lv_has ls 4 [(0, .ref (ad G (65 * n + 0))), (1, .int 2)] := hl
  refine lv_iconst (v := 0) hx hb dX4_rankOfFurnace_0 (by decide) ?_
  refine lv_istore_n (lv' := [(2, .int 0), (0, .ref (ad G (65 * n + 0))), (1, .int 2)]) hx hb dX4_rankOfFurnace_1 rfl hl (by decide) rfl (fun ls_1 hl_2 => ?_)
  refine lv_iconst (v := 0) hx hb dX4_rankOfFurnace_2 (by decide) ?_
  refine lv_istore_n (lv' := [(3, .int 0), (2, .int 0), (0, .ref (ad G (65 * n + 0))), (1, .int 2)]) hx hb dX4_rankOfFurnace_3 rfl hl_2 (by decide) rfl (fun ls_3 hl_4 => ?_)
  refine lv_iload_n hx hb dX4_rankOfFurnace_4 rfl (lv_at hl_4 0 rfl) ?_
  refine lv_iconst (v := 3) hx hb dX4_rankOfFurnace_5 (by decide) ?_
  refine lv_icmp_ge (tgt := 32) hx hb dX4_rankOfFurnace_6 (by decide) (fun h9 => absurd h9 (by decide)) (fun _ => ?_)
  refine lv_iload_n hx hb dX4_rankOfFurnace_9 rfl (lv_at hl_4 0 rfl) ?_
  refine lv_iload_n hx hb dX4_rankOfFurnace_10 rfl (lv_at hl_4 3 rfl) ?_
  refine lv_icmp_eq (tgt := 26) hx hb dX4_rankOfFurnace_11 (by decide) (fun h9 => absurd h9 (by decide)) (fun _ => ?_)
  refine lv_aload_n hx hb dX4_rankOfFurnace_14 rfl (lv_at hl_4 2 rfl) ?_
  refine lv_iload_n hx hb dX4_rankOfFurnace_15 rfl (lv_at hl_4 0 rfl) ?_
  refine lv_iload_n hx hb dX4_rankOfFurnace_16 rfl (lv_at hl_4 3 rfl) ?_
  refine g_calli (va_runV (As := [.int 0, .int 2]) (rest := []) C.1 (cX4_furnaceComesFirst_ok l G X n hp 0 (by decide) 2 (by decide)) (cwV 2 C.1.2.2.2.2 (gV qw_1168 qw_1170 qw_17 qw_72 qw_1171) rfl rfl rfl (by decide +kernel) ⟨Nat.le_of_ble_eq_true rfl, Nat.le_of_ble_eq_true rfl⟩) (g_rPlant C hW hS hp [.int 0, .int 2]) rfl rfl hl_4.1 rfl (lv_room (Nat.le_of_ble_eq_true rfl)) dX4_rankOfFurnace_17 ⟨Nat.zero_le _, Nat.zero_le _⟩) hS (fun r_6 Y_7 H_8 locs_9 hW_10 hS_11 h_5 => ?_)
  obtain ⟨h_5, hy_12⟩ := h_5
  replace hy_12 := hy_12.symm
  subst hy_12
  subst h_5
  refine lv_if_eq (tgt := 26) hx hb dX4_rankOfFurnace_20 (by decide) (fun b_13 => ?_) (fun b_13 => ?_)
  · refine lv_iinc (v := 1) (lv' := [(3, .int 1), (2, .int 0), (0, .ref (ad G (65 * n + 0))), (1, .int 2)]) hx hb dX4_rankOfFurnace_26 hl_4 (k := 0) rfl (by decide) (by decide) rfl (fun ls_14 hl_15 => ?_)
    refine lv_goto (tgt := 4) hx hb dX4_rankOfFurnace_29 (by decide) ?_
    refine lv_iload_n hx hb dX4_rankOfFurnace_4 rfl (lv_at hl_15 0 rfl) ?_
    refine lv_iconst (v := 3) hx hb dX4_rankOfFurnace_5 (by decide) ?_
    refine lv_icmp_ge (tgt := 32) hx hb dX4_rankOfFurnace_6 (by decide) (fun h9 => absurd h9 (by decide)) (fun _ => ?_)
    refine lv_iload_n hx hb dX4_rankOfFurnace_9 rfl (lv_at hl_15 0 rfl) ?_
    refine lv_iload_n hx hb dX4_rankOfFurnace_10 rfl (lv_at hl_15 3 rfl) ?_
    refine lv_icmp_eq (tgt := 26) hx hb dX4_rankOfFurnace_11 (by decide) (fun h9 => absurd h9 (by decide)) (fun _ => ?_)
    refine lv_aload_n hx hb dX4_rankOfFurnace_14 rfl (lv_at hl_15 2 rfl) ?_
    refine lv_iload_n hx hb dX4_rankOfFurnace_15 rfl (lv_at hl_15 0 rfl) ?_
    refine lv_iload_n hx hb dX4_rankOfFurnace_16 rfl (lv_at hl_15 3 rfl) ?_
    refine g_calli (va_runV (As := [.int 1, .int 2]) (rest := []) C.1 (cX4_furnaceComesFirst_ok l G X n hp 1 (by decide) 2 (by decide)) (cwV 2 C.1.2.2.2.2 (gV qw_1168 qw_1170 qw_17 qw_72 qw_1171) rfl rfl rfl (by decide +kernel) ⟨Nat.le_of_ble_eq_true rfl, Nat.le_of_ble_eq_true rfl⟩) (g_rPlant C hW_10 hS_11 hp [.int 1, .int 2]) rfl rfl hl_15.1 rfl (lv_room (Nat.le_of_ble_eq_true rfl)) dX4_rankOfFurnace_17 ⟨Nat.zero_le _, Nat.zero_le _⟩) hS_11 (fun r_17 Y_18 H_19 locs_20 hW_21 hS_22 h_16 => ?_)
    obtain ⟨h_16, hy_23⟩ := h_16
    replace hy_23 := hy_23.symm
    subst hy_23
    subst h_16
    refine lv_if_eq (tgt := 26) hx hb dX4_rankOfFurnace_20 (by decide) (fun b_24 => ?_) (fun b_24 => ?_)
    · refine lv_iinc (v := 2) (lv' := [(3, .int 2), (2, .int 0), (0, .ref (ad G (65 * n + 0))), (1, .int 2)]) hx hb dX4_rankOfFurnace_26 hl_15 (k := 0) rfl (by decide) (by decide) rfl (fun ls_25 hl_26 => ?_)
      refine lv_goto (tgt := 4) hx hb dX4_rankOfFurnace_29 (by decide) ?_
      refine lv_iload_n hx hb dX4_rankOfFurnace_4 rfl (lv_at hl_26 0 rfl) ?_
      refine lv_iconst (v := 3) hx hb dX4_rankOfFurnace_5 (by decide) ?_
      refine lv_icmp_ge (tgt := 32) hx hb dX4_rankOfFurnace_6 (by decide) (fun h9 => absurd h9 (by decide)) (fun _ => ?_)
      refine lv_iload_n hx hb dX4_rankOfFurnace_9 rfl (lv_at hl_26 0 rfl) ?_
      refine lv_iload_n hx hb dX4_rankOfFurnace_10 rfl (lv_at hl_26 3 rfl) ?_
      refine lv_icmp_eq (tgt := 26) hx hb dX4_rankOfFurnace_11 (by decide) (fun _ => ?_) (fun h9 => absurd h9 (by decide))
      refine lv_iinc (v := 3) (lv' := [(3, .int 3), (2, .int 0), (0, .ref (ad G (65 * n + 0))), (1, .int 2)]) hx hb dX4_rankOfFurnace_26 hl_26 (k := 0) rfl (by decide) (by decide) rfl (fun ls_27 hl_28 => ?_)
      refine lv_goto (tgt := 4) hx hb dX4_rankOfFurnace_29 (by decide) ?_
      refine lv_iload_n hx hb dX4_rankOfFurnace_4 rfl (lv_at hl_28 0 rfl) ?_
      refine lv_iconst (v := 3) hx hb dX4_rankOfFurnace_5 (by decide) ?_
      refine lv_icmp_ge (tgt := 32) hx hb dX4_rankOfFurnace_6 (by decide) (fun _ => ?_) (fun h9 => absurd h9 (by decide))
      refine lv_iload_n hx hb dX4_rankOfFurnace_32 rfl (lv_at hl_28 1 rfl) ?_
      exact g_iret C hr hlk hW_21 hS_22 dX4_rankOfFurnace_33 (by exact ⟨by simp only [rankFW, b_13, b_24, if_true, if_false]; first | done | rfl | decide, rfl⟩)
    · refine lv_iinc (v := 1) (lv' := [(2, .int 1), (3, .int 1), (0, .ref (ad G (65 * n + 0))), (1, .int 2)]) hx hb dX4_rankOfFurnace_23 hl_15 (k := 1) rfl (by decide) (by decide) rfl (fun ls_29 hl_30 => ?_)
      refine lv_iinc (v := 2) (lv' := [(3, .int 2), (2, .int 1), (0, .ref (ad G (65 * n + 0))), (1, .int 2)]) hx hb dX4_rankOfFurnace_26 hl_30 (k := 1) rfl (by decide) (by decide) rfl (fun ls_31 hl_32 => ?_)
      refine lv_goto (tgt := 4) hx hb dX4_rankOfFurnace_29 (by decide) ?_
      refine lv_iload_n hx hb dX4_rankOfFurnace_4 rfl (lv_at hl_32 0 rfl) ?_
      refine lv_iconst (v := 3) hx hb dX4_rankOfFurnace_5 (by decide) ?_
      refine lv_icmp_ge (tgt := 32) hx hb dX4_rankOfFurnace_6 (by decide) (fun h9 => absurd h9 (by decide)) (fun _ => ?_)
      refine lv_iload_n hx hb dX4_rankOfFurnace_9 rfl (lv_at hl_32 0 rfl) ?_
      refine lv_iload_n hx hb dX4_rankOfFurnace_10 rfl (lv_at hl_32 3 rfl) ?_
      refine lv_icmp_eq (tgt := 26) hx hb dX4_rankOfFurnace_11 (by decide) (fun _ => ?_) (fun h9 => absurd h9 (by decide))
      refine lv_iinc (v := 3) (lv' := [(3, .int 3), (2, .int 1), (0, .ref (ad G (65 * n + 0))), (1, .int 2)]) hx hb dX4_rankOfFurnace_26 hl_32 (k := 0) rfl (by decide) (by decide) rfl (fun ls_33 hl_34 => ?_)
      refine lv_goto (tgt := 4) hx hb dX4_rankOfFurnace_29 (by decide) ?_
      refine lv_iload_n hx hb dX4_rankOfFurnace_4 rfl (lv_at hl_34 0 rfl) ?_
      refine lv_iconst (v := 3) hx hb dX4_rankOfFurnace_5 (by decide) ?_
      refine lv_icmp_ge (tgt := 32) hx hb dX4_rankOfFurnace_6 (by decide) (fun _ => ?_) (fun h9 => absurd h9 (by decide))
      refine lv_iload_n hx hb dX4_rankOfFurnace_32 rfl (lv_at hl_34 1 rfl) ?_
      exact g_iret C hr hlk hW_21 hS_22 dX4_rankOfFurnace_33 (by exact ⟨by simp only [rankFW, b_13, b_24, if_true, if_false]; first | done | rfl | decide, rfl⟩)
  · refine lv_iinc (v := 1) (lv' := [(2, .int 1), (3, .int 0), (0, .ref (ad G (65 * n + 0))), (1, .int 2)]) hx hb dX4_rankOfFurnace_23 hl_4 (k := 1) rfl (by decide) (by decide) rfl (fun ls_35 hl_36 => ?_)
    refine lv_iinc (v := 1) (lv' := [(3, .int 1), (2, .int 1), (0, .ref (ad G (65 * n + 0))), (1, .int 2)]) hx hb dX4_rankOfFurnace_26 hl_36 (k := 1) rfl (by decide) (by decide) rfl (fun ls_37 hl_38 => ?_)
    refine lv_goto (tgt := 4) hx hb dX4_rankOfFurnace_29 (by decide) ?_
    refine lv_iload_n hx hb dX4_rankOfFurnace_4 rfl (lv_at hl_38 0 rfl) ?_
    refine lv_iconst (v := 3) hx hb dX4_rankOfFurnace_5 (by decide) ?_
    refine lv_icmp_ge (tgt := 32) hx hb dX4_rankOfFurnace_6 (by decide) (fun h9 => absurd h9 (by decide)) (fun _ => ?_)
    refine lv_iload_n hx hb dX4_rankOfFurnace_9 rfl (lv_at hl_38 0 rfl) ?_
    refine lv_iload_n hx hb dX4_rankOfFurnace_10 rfl (lv_at hl_38 3 rfl) ?_
    refine lv_icmp_eq (tgt := 26) hx hb dX4_rankOfFurnace_11 (by decide) (fun h9 => absurd h9 (by decide)) (fun _ => ?_)
    refine lv_aload_n hx hb dX4_rankOfFurnace_14 rfl (lv_at hl_38 2 rfl) ?_
    refine lv_iload_n hx hb dX4_rankOfFurnace_15 rfl (lv_at hl_38 0 rfl) ?_
    refine lv_iload_n hx hb dX4_rankOfFurnace_16 rfl (lv_at hl_38 3 rfl) ?_
    refine g_calli (va_runV (As := [.int 1, .int 2]) (rest := []) C.1 (cX4_furnaceComesFirst_ok l G X n hp 1 (by decide) 2 (by decide)) (cwV 2 C.1.2.2.2.2 (gV qw_1168 qw_1170 qw_17 qw_72 qw_1171) rfl rfl rfl (by decide +kernel) ⟨Nat.le_of_ble_eq_true rfl, Nat.le_of_ble_eq_true rfl⟩) (g_rPlant C hW_10 hS_11 hp [.int 1, .int 2]) rfl rfl hl_38.1 rfl (lv_room (Nat.le_of_ble_eq_true rfl)) dX4_rankOfFurnace_17 ⟨Nat.zero_le _, Nat.zero_le _⟩) hS_11 (fun r_40 Y_41 H_42 locs_43 hW_44 hS_45 h_39 => ?_)
    obtain ⟨h_39, hy_46⟩ := h_39
    replace hy_46 := hy_46.symm
    subst hy_46
    subst h_39
    refine lv_if_eq (tgt := 26) hx hb dX4_rankOfFurnace_20 (by decide) (fun b_47 => ?_) (fun b_47 => ?_)
    · refine lv_iinc (v := 2) (lv' := [(3, .int 2), (2, .int 1), (0, .ref (ad G (65 * n + 0))), (1, .int 2)]) hx hb dX4_rankOfFurnace_26 hl_38 (k := 0) rfl (by decide) (by decide) rfl (fun ls_48 hl_49 => ?_)
      refine lv_goto (tgt := 4) hx hb dX4_rankOfFurnace_29 (by decide) ?_
      refine lv_iload_n hx hb dX4_rankOfFurnace_4 rfl (lv_at hl_49 0 rfl) ?_
      refine lv_iconst (v := 3) hx hb dX4_rankOfFurnace_5 (by decide) ?_
      refine lv_icmp_ge (tgt := 32) hx hb dX4_rankOfFurnace_6 (by decide) (fun h9 => absurd h9 (by decide)) (fun _ => ?_)
      refine lv_iload_n hx hb dX4_rankOfFurnace_9 rfl (lv_at hl_49 0 rfl) ?_
      refine lv_iload_n hx hb dX4_rankOfFurnace_10 rfl (lv_at hl_49 3 rfl) ?_
      refine lv_icmp_eq (tgt := 26) hx hb dX4_rankOfFurnace_11 (by decide) (fun _ => ?_) (fun h9 => absurd h9 (by decide))
      refine lv_iinc (v := 3) (lv' := [(3, .int 3), (2, .int 1), (0, .ref (ad G (65 * n + 0))), (1, .int 2)]) hx hb dX4_rankOfFurnace_26 hl_49 (k := 0) rfl (by decide) (by decide) rfl (fun ls_50 hl_51 => ?_)
      refine lv_goto (tgt := 4) hx hb dX4_rankOfFurnace_29 (by decide) ?_
      refine lv_iload_n hx hb dX4_rankOfFurnace_4 rfl (lv_at hl_51 0 rfl) ?_
      refine lv_iconst (v := 3) hx hb dX4_rankOfFurnace_5 (by decide) ?_
      refine lv_icmp_ge (tgt := 32) hx hb dX4_rankOfFurnace_6 (by decide) (fun _ => ?_) (fun h9 => absurd h9 (by decide))
      refine lv_iload_n hx hb dX4_rankOfFurnace_32 rfl (lv_at hl_51 1 rfl) ?_
      exact g_iret C hr hlk hW_44 hS_45 dX4_rankOfFurnace_33 (by exact ⟨by simp only [rankFW, b_13, b_47, if_true, if_false]; first | done | rfl | decide, rfl⟩)
    · refine lv_iinc (v := 2) (lv' := [(2, .int 2), (3, .int 1), (0, .ref (ad G (65 * n + 0))), (1, .int 2)]) hx hb dX4_rankOfFurnace_23 hl_38 (k := 1) rfl (by decide) (by decide) rfl (fun ls_52 hl_53 => ?_)
      refine lv_iinc (v := 2) (lv' := [(3, .int 2), (2, .int 2), (0, .ref (ad G (65 * n + 0))), (1, .int 2)]) hx hb dX4_rankOfFurnace_26 hl_53 (k := 1) rfl (by decide) (by decide) rfl (fun ls_54 hl_55 => ?_)
      refine lv_goto (tgt := 4) hx hb dX4_rankOfFurnace_29 (by decide) ?_
      refine lv_iload_n hx hb dX4_rankOfFurnace_4 rfl (lv_at hl_55 0 rfl) ?_
      refine lv_iconst (v := 3) hx hb dX4_rankOfFurnace_5 (by decide) ?_
      refine lv_icmp_ge (tgt := 32) hx hb dX4_rankOfFurnace_6 (by decide) (fun h9 => absurd h9 (by decide)) (fun _ => ?_)
      refine lv_iload_n hx hb dX4_rankOfFurnace_9 rfl (lv_at hl_55 0 rfl) ?_
      refine lv_iload_n hx hb dX4_rankOfFurnace_10 rfl (lv_at hl_55 3 rfl) ?_
      refine lv_icmp_eq (tgt := 26) hx hb dX4_rankOfFurnace_11 (by decide) (fun _ => ?_) (fun h9 => absurd h9 (by decide))
      refine lv_iinc (v := 3) (lv' := [(3, .int 3), (2, .int 2), (0, .ref (ad G (65 * n + 0))), (1, .int 2)]) hx hb dX4_rankOfFurnace_26 hl_55 (k := 0) rfl (by decide) (by decide) rfl (fun ls_56 hl_57 => ?_)
      refine lv_goto (tgt := 4) hx hb dX4_rankOfFurnace_29 (by decide) ?_
      refine lv_iload_n hx hb dX4_rankOfFurnace_4 rfl (lv_at hl_57 0 rfl) ?_
      refine lv_iconst (v := 3) hx hb dX4_rankOfFurnace_5 (by decide) ?_
      refine lv_icmp_ge (tgt := 32) hx hb dX4_rankOfFurnace_6 (by decide) (fun _ => ?_) (fun h9 => absurd h9 (by decide))
      refine lv_iload_n hx hb dX4_rankOfFurnace_32 rfl (lv_at hl_57 1 rfl) ?_
      exact g_iret C hr hlk hW_44 hS_45 dX4_rankOfFurnace_33 (by exact ⟨by simp only [rankFW, b_13, b_47, if_true, if_false]; first | done | rfl | decide, rfl⟩)

set_option maxHeartbeats 4000000 in
set_option maxRecDepth 100000 in
theorem cX4_minutesByWaiting_ok (l : Launch) (G : GT) (X : St) (n : Nat) (hp : n < 11) (f : Nat) (hf : f < 3) : MetI l G yX4_minutesByWaiting (wsG yX4_minutesByWaiting cX4_minutesByWaiting 5 (some .int)) (rmz 1 23) [.ref (ad G (65 * n + 0)), .int (nI f)] X (fun res Y => res = mbwW (X.1 n) f ∧ Y = X) := by
  refine g_met (cc := cX4_minutesByWaiting) (maxL := 5) (ret := (some .int)) (by decide) rfl (Nat.le_of_ble_eq_true rfl) ?_
  intro p e s m below meth c ls C hr hlk hnm hW hl
  have hx := C.1.1
  have hb := C.1.2.1
  have hS : va_S (Ab G) s.heap s.heap [] := va_S.rf
  have hl : lv_has ls 5 [(0, .ref (ad G (65 * n + 0))), (1, .int (nI f))] := hl
  refine lv_aload_n hx hb dX4_minutesByWaiting_0 rfl (lv_at hl 0 rfl) ?_
  refine gP_furnaces C hW hp (hwc hwX4) (mc qw_155) dX4_minutesByWaiting_1 ?_
  refine lv_iload_n hx hb dX4_minutesByWaiting_4 rfl (lv_at hl 1 rfl) ?_
  refine g_fur C hW hp f (nI_clamp (by omega)) (vp_in_nI hf (by decide)) dX4_minutesByWaiting_5 ?_
  refine g_contentN C hW (ves_fur (G := G) hp hf) (hwc hwX6) nw_20 dX4_minutesByWaiting_6 ?_
  refine g_calli (va_runV (As := []) (rest := []) C.1 (cX3_pointBySums_ok l G X (65 * n + (12 + 3 * f)) (65 * n + (13 + 3 * f)) n (9 + 6 * f) ((ves_fur (G := G) hp hf).mix)) (cwV 0 C.1.2.2.2.2 (gV qw_341 qw_342 qw_343 qw_73 qw_344) rfl rfl rfl (by decide +kernel) ⟨Nat.le_of_ble_eq_true rfl, Nat.le_of_ble_eq_true rfl⟩) (g_rMix C hW hS (ves_fur (G := G) hp hf).mix []) rfl rfl hl.1 rfl (lv_room (Nat.le_of_ble_eq_true rfl)) dX4_minutesByWaiting_9 ⟨Nat.zero_le _, Nat.zero_le _⟩) hS (fun r_2 Y_3 H_4 locs_5 hW_6 hS_7 h_1 => ?_)
  obtain ⟨h_1, hy_8⟩ := h_1
  replace hy_8 := hy_8.symm
  subst hy_8
  subst h_1
  refine lv_topi (fun v_9 ev_9 => ?_)
  refine lv_istore_n (lv' := [(2, .int v_9), (0, .ref (ad G (65 * n + 0))), (1, .int (nI f))]) hx hb dX4_minutesByWaiting_12 rfl hl (by decide) rfl (fun ls_10 hl_11 => ?_)
  refine lv_aload_n hx hb dX4_minutesByWaiting_13 rfl (lv_at hl_11 1 rfl) ?_
  refine gP_furnaces C hW_6 hp (hwc hwX4) (mc qw_155) dX4_minutesByWaiting_14 ?_
  refine lv_iload_n hx hb dX4_minutesByWaiting_17 rfl (lv_at hl_11 2 rfl) ?_
  refine g_fur C hW_6 hp f (nI_clamp (by omega)) (vp_in_nI hf (by decide)) dX4_minutesByWaiting_18 ?_
  refine g_tempN C hW_6 (ves_fur (G := G) hp hf) (hwc hwX6) nw_22 dX4_minutesByWaiting_19 ?_
  refine lv_topi (fun v_12 ev_12 => ?_)
  refine lv_istore_n (lv' := [(3, .int v_12), (2, .int v_9), (0, .ref (ad G (65 * n + 0))), (1, .int (nI f))]) hx hb dX4_minutesByWaiting_22 rfl hl_11 (by decide) rfl (fun ls_13 hl_14 => ?_)
  refine lv_iconst (v := 0) hx hb dX4_minutesByWaiting_23 (by decide) ?_
  refine lv_istore (lv' := [(4, .int 0), (3, .int v_12), (2, .int v_9), (0, .ref (ad G (65 * n + 0))), (1, .int (nI f))]) hx hb dX4_minutesByWaiting_24 hl_14 (by decide) rfl (fun ls_15 hl_16 => ?_)
  have loop : ∀ (q : Nat) (kk : Nat) (pp tt : Int32) (H : Heap) (locs : List Loc) (ls : Array Slot), kk + q = 100000 → mbwL pp (riseW (X.1 n) f) q tt kk = mbwL (ptW (X.1 n) (9 + 6 * f)) (riseW (X.1 n) f) 100000 (X.1 n (9 + 6 * f + 4)) 0 → Wd G (X) H → va_S (Ab G) s.heap H locs → lv_has ls 5 [(4, .int (nI kk)), (3, .int tt), (2, .int pp), (0, .ref (ad G (65 * n + 0))), (1, .int (nI f))] → W p l e (rmz 1 23) s m ([.ref (ad G (65 * n + 0)), .int (nI f)] : List Value).toArray below meth c H locs 0 0 (MQ below (Ki G (fun res Y => res = mbwW (X.1 n) f ∧ Y = X)) ([.ref (ad G (65 * n + 0)), .int (nI f)] : List Value).toArray s 0 0 (Ab G)) (F0 m 26 ls []) := by
    intro q
    induction q with
    | zero =>
      intro kk pp tt H locs ls hq hfw hW hS hl
      refine lv_iload_n hx hb dX4_minutesByWaiting_26 rfl (lv_at hl 1 rfl) ?_
      refine lv_iload_n hx hb dX4_minutesByWaiting_27 rfl (lv_at hl 2 rfl) ?_
      refine lv_icmp_ge (tgt := 55) hx hb dX4_minutesByWaiting_28 (by decide) (fun b_17 => ?_) (fun b_17 => ?_)
      · refine lv_iload hx hb dX4_minutesByWaiting_55 (lv_at hl 0 rfl) ?_
        exact g_iret C hr hlk hW hS dX4_minutesByWaiting_57 ⟨by rw [mbwW, ← hfw]; rfl, rfl⟩
      · refine lv_iload hx hb dX4_minutesByWaiting_31 (lv_at hl 0 rfl) ?_
        refine lv_ldc (v := 100000) hx hb C.1.2.2.2.1 (C.1.2.2.2.2 _ (mc qx_long)) dX4_minutesByWaiting_33 ?_
        refine lv_icmp_ge (tgt := 55) hx hb dX4_minutesByWaiting_35 (by decide) (fun _ => ?_) (fun h9 => absurd (nI_le (b := 100000) (a := 100000) (by omega) (by omega) |> fun h => by rw [show kk = 100000 by omega]; exact h) h9)
        refine lv_iload hx hb dX4_minutesByWaiting_55 (lv_at hl 0 rfl) ?_
        exact g_iret C hr hlk hW hS dX4_minutesByWaiting_57 ⟨by rw [mbwW, ← hfw]; rfl, rfl⟩
    | succ q ih =>
      intro kk pp tt H locs ls hq hfw hW hS hl
      refine lv_iload_n hx hb dX4_minutesByWaiting_26 rfl (lv_at hl 1 rfl) ?_
      refine lv_iload_n hx hb dX4_minutesByWaiting_27 rfl (lv_at hl 2 rfl) ?_
      refine lv_icmp_ge (tgt := 55) hx hb dX4_minutesByWaiting_28 (by decide) (fun b_18 => ?_) (fun b_18 => ?_)
      · refine lv_iload hx hb dX4_minutesByWaiting_55 (lv_at hl 0 rfl) ?_
        exact g_iret C hr hlk hW hS dX4_minutesByWaiting_57 ⟨by rw [mbwW, ← hfw, mbwL, if_pos b_18], rfl⟩
      · refine lv_iload hx hb dX4_minutesByWaiting_31 (lv_at hl 0 rfl) ?_
        refine lv_ldc (v := 100000) hx hb C.1.2.2.2.1 (C.1.2.2.2.2 _ (mc qx_long)) dX4_minutesByWaiting_33 ?_
        refine lv_icmp_ge (tgt := 55) hx hb dX4_minutesByWaiting_35 (by decide) (fun h9 => absurd h9 (nI_ge (a := kk) (b := 100000) (by omega) (by omega))) (fun _ => ?_)
        refine lv_iload_n hx hb dX4_minutesByWaiting_38 rfl (lv_at hl 1 rfl) ?_
        refine lv_aload_n hx hb dX4_minutesByWaiting_39 rfl (lv_at hl 3 rfl) ?_
        refine lv_iload_n hx hb dX4_minutesByWaiting_40 rfl (lv_at hl 4 rfl) ?_
        refine g_calli (va_runV (As := [.int (nI f)]) (rest := [.int tt]) C.1 (cX4_riseOf_ok l G X n hp f hf) (cwV 1 C.1.2.2.2.2 (gV qw_366 qw_368 qw_0 qw_72 qw_369) rfl rfl rfl (by decide +kernel) ⟨Nat.le_of_ble_eq_true rfl, Nat.le_of_ble_eq_true rfl⟩) (g_rPlant C hW hS hp [.int (nI f)]) rfl rfl hl.1 rfl (lv_room (Nat.le_of_ble_eq_true rfl)) dX4_minutesByWaiting_41 ⟨Nat.zero_le _, Nat.zero_le _⟩) hS (fun r_20 Y_21 H_22 locs_23 hW_24 hS_25 h_19 => ?_)
        obtain ⟨h_19, hy_26⟩ := h_19
        replace hy_26 := hy_26.symm
        subst hy_26
        subst h_19
        refine lv_iadd hx hb dX4_minutesByWaiting_44 ?_
        refine g_calli (va_runSN (As := [.int (tt + (riseW (X.1 n) f))]) (rest := []) C.1 (cX7_withinLimits_ok l G X (tt + (riseW (X.1 n) f))) (⟨va_cnB 1 C.1.2.2.2.2 (gN qw_372) rfl rfl rfl (C.2.2.1.1 _ nw_30) (C.1.2.2.2.2 _ (mc qw_71)) (by decide +kernel) ⟨Nat.le_of_ble_eq_true rfl, Nat.le_of_ble_eq_true rfl⟩, C.1.2.2.2.2 _ (mc qw_371), trivial⟩) (g_pre C hW_24 hS_25 [.int (tt + (riseW (X.1 n) f))]) rfl rfl hl.1 rfl (lv_room (Nat.le_of_ble_eq_true rfl)) dX4_minutesByWaiting_45 ⟨Nat.zero_le _, Nat.zero_le _⟩) hS_25 (fun r_28 Y_29 H_30 locs_31 hW_32 hS_33 h_27 => ?_)
        obtain ⟨h_27, hy_34⟩ := h_27
        replace hy_34 := hy_34.symm
        subst hy_34
        subst h_27
        refine lv_topi (fun v_35 ev_35 => ?_)
        refine lv_istore_n (lv' := [(3, .int v_35), (4, .int (nI kk)), (2, .int pp), (0, .ref (ad G (65 * n + 0))), (1, .int (nI f))]) hx hb dX4_minutesByWaiting_48 rfl hl (by decide) rfl (fun ls_36 hl_37 => ?_)
        refine lv_iinc (v := nI (kk + 1)) (lv' := [(4, .int (nI (kk + 1))), (3, .int v_35), (2, .int pp), (0, .ref (ad G (65 * n + 0))), (1, .int (nI f))]) hx hb dX4_minutesByWaiting_49 hl_37 (k := 1) rfl (nI_1 kk) (by decide) rfl (fun ls_38 hl_39 => ?_)
        refine lv_goto (tgt := 26) hx hb dX4_minutesByWaiting_52 (by decide) ?_
        exact ih (kk + 1) pp v_35 H_30 locs_31 ls_38 (by omega) (by subst ev_35; rw [mbwL, if_neg b_18] at hfw; exact hfw) hW_32 hS_33 (lv_sub hl_39 [0, 1, 2, 3, 4] rfl)
  exact loop 100000 0 v_9 v_12 H_4 locs_5 ls_15 rfl (by subst ev_12; subst ev_9; rfl) hW_6 hS_7 (lv_sub hl_16 [0, 1, 2, 3, 4] rfl)

set_option maxHeartbeats 4000000 in
set_option maxRecDepth 100000 in
theorem cX4_furnaceAgrees_ok (l : Launch) (G : GT) (X : St) (n : Nat) (hp : n < 11) (f : Nat) (hf : f < 3) : MetI l G yX4_furnaceAgrees (wsG yX4_furnaceAgrees cX4_furnaceAgrees 3 (some .boolean)) (rmz 3 64) [.ref (ad G (65 * n + 0)), .int (nI f)] X (fun res Y => res = agrW (X.1 n) f ∧ Y = X) := by
  refine g_met (cc := cX4_furnaceAgrees) (maxL := 3) (ret := (some .boolean)) (by decide) rfl (Nat.le_of_ble_eq_true rfl) ?_
  intro p e s m below meth c ls C hr hlk hnm hW hl
  have hx := C.1.1
  have hb := C.1.2.1
  have hS : va_S (Ab G) s.heap s.heap [] := va_S.rf
  have hl : lv_has ls 3 [(0, .ref (ad G (65 * n + 0))), (1, .int (nI f))] := hl
  refine lv_aload_n hx hb dX4_furnaceAgrees_0 rfl (lv_at hl 0 rfl) ?_
  refine gP_furnaces C hW hp (hwc hwX4) (mc qw_155) dX4_furnaceAgrees_1 ?_
  refine lv_iload_n hx hb dX4_furnaceAgrees_4 rfl (lv_at hl 1 rfl) ?_
  refine g_fur C hW hp f (nI_clamp (by omega)) (vp_in_nI hf (by decide)) dX4_furnaceAgrees_5 ?_
  refine g_contentN C hW (ves_fur (G := G) hp hf) (hwc hwX6) nw_20 dX4_furnaceAgrees_6 ?_
  refine lv_astore_n (lv' := [(2, .ref (ad G (65 * n + (12 + 3 * f)))), (0, .ref (ad G (65 * n + 0))), (1, .int (nI f))]) hx hb dX4_furnaceAgrees_9 rfl hl (by decide) rfl (fun ls_1 hl_2 => ?_)
  refine lv_aload_n hx hb dX4_furnaceAgrees_10 rfl (lv_at hl_2 0 rfl) ?_
  refine g_calli (va_runV (As := []) (rest := []) C.1 (cX3_sum_ok l G X (65 * n + (12 + 3 * f)) (65 * n + (13 + 3 * f)) n (9 + 6 * f) ((ves_fur (G := G) hp hf).mix)) (cwV 0 C.1.2.2.2.2 (gV qw_337 qw_338 qw_339 qw_73 qw_340) rfl rfl rfl (by decide +kernel) ⟨Nat.le_of_ble_eq_true rfl, Nat.le_of_ble_eq_true rfl⟩) (g_rMix C hW hS (ves_fur (G := G) hp hf).mix []) rfl rfl hl_2.1 rfl (lv_room (Nat.le_of_ble_eq_true rfl)) dX4_furnaceAgrees_11 ⟨Nat.zero_le _, Nat.zero_le _⟩) hS (fun r_4 Y_5 H_6 locs_7 hW_8 hS_9 h_3 => ?_)
  obtain ⟨h_3, hy_10⟩ := h_3
  replace hy_10 := hy_10.symm
  subst hy_10
  subst h_3
  refine lv_if_le (tgt := 30) hx hb dX4_furnaceAgrees_14 (by decide) (fun b_11 => ?_) (fun b_11 => ?_)
  · refine lv_aload_n hx hb dX4_furnaceAgrees_30 rfl (lv_at hl_2 1 rfl) ?_
    refine lv_iload_n hx hb dX4_furnaceAgrees_31 rfl (lv_at hl_2 2 rfl) ?_
    refine g_calli (va_runV (As := [.int (nI f)]) (rest := []) C.1 (cX4_willBeMolten_ok l G X n hp f hf) (cwV 1 C.1.2.2.2.2 (gV qw_351 qw_352 qw_353 qw_72 qw_354) rfl rfl rfl (by decide +kernel) ⟨Nat.le_of_ble_eq_true rfl, Nat.le_of_ble_eq_true rfl⟩) (g_rPlant C hW_8 hS_9 hp [.int (nI f)]) rfl rfl hl_2.1 rfl (lv_room (Nat.le_of_ble_eq_true rfl)) dX4_furnaceAgrees_32 ⟨Nat.zero_le _, Nat.zero_le _⟩) hS_9 (fun r_13 Y_14 H_15 locs_16 hW_17 hS_18 h_12 => ?_)
    obtain ⟨h_12, hy_19⟩ := h_12
    replace hy_19 := hy_19.symm
    subst hy_19
    subst h_12
    refine lv_if_eq (tgt := 51) hx hb dX4_furnaceAgrees_35 (by decide) (fun b_20 => ?_) (fun b_20 => ?_)
    · refine lv_iconst (v := 1) hx hb dX4_furnaceAgrees_51 (by decide) ?_
      refine lv_goto (tgt := 56) hx hb dX4_furnaceAgrees_52 (by decide) ?_
      exact g_zret C hr hlk hW_17 hS_18 dX4_furnaceAgrees_56 rfl (by exact ⟨by simp only [agrW, b_11, b_20, if_true, if_false], rfl⟩)
    · refine lv_aload_n hx hb dX4_furnaceAgrees_38 rfl (lv_at hl_2 1 rfl) ?_
      refine lv_iload_n hx hb dX4_furnaceAgrees_39 rfl (lv_at hl_2 2 rfl) ?_
      refine g_calli (va_runV (As := [.int (nI f)]) (rest := []) C.1 (cX4_minutesByWaiting_ok l G X n hp f hf) (cwV 1 C.1.2.2.2.2 (gV qw_361 qw_362 qw_363 qw_72 qw_364) rfl rfl rfl (by decide +kernel) ⟨Nat.le_of_ble_eq_true rfl, Nat.le_of_ble_eq_true rfl⟩) (g_rPlant C hW_17 hS_18 hp [.int (nI f)]) rfl rfl hl_2.1 rfl (lv_room (Nat.le_of_ble_eq_true rfl)) dX4_furnaceAgrees_40 ⟨Nat.zero_le _, Nat.zero_le _⟩) hS_18 (fun r_22 Y_23 H_24 locs_25 hW_26 hS_27 h_21 => ?_)
      obtain ⟨h_21, hy_28⟩ := h_21
      replace hy_28 := hy_28.symm
      subst hy_28
      subst h_21
      refine lv_aload_n hx hb dX4_furnaceAgrees_43 rfl (lv_at hl_2 1 rfl) ?_
      refine lv_iload_n hx hb dX4_furnaceAgrees_44 rfl (lv_at hl_2 2 rfl) ?_
      refine g_calli (va_runV (As := [.int (nI f)]) (rest := [.int (mbwW (X.1 n) f)]) C.1 (cX4_minutesByDivision_ok l G X n hp f hf) (cwV 1 C.1.2.2.2.2 (gV qw_373 qw_374 qw_375 qw_72 qw_376) rfl rfl rfl (by decide +kernel) ⟨Nat.le_of_ble_eq_true rfl, Nat.le_of_ble_eq_true rfl⟩) (g_rPlant C hW_26 hS_27 hp [.int (nI f)]) rfl rfl hl_2.1 rfl (lv_room (Nat.le_of_ble_eq_true rfl)) dX4_furnaceAgrees_45 ⟨Nat.zero_le _, Nat.zero_le _⟩) hS_27 (fun r_30 Y_31 H_32 locs_33 hW_34 hS_35 h_29 => ?_)
      obtain ⟨h_29, hy_36⟩ := h_29
      replace hy_36 := hy_36.symm
      subst hy_36
      subst h_29
      refine lv_icmp_ne (tgt := 55) hx hb dX4_furnaceAgrees_48 (by decide) (fun b_37 => ?_) (fun b_37 => ?_)
      · refine lv_iconst (v := 0) hx hb dX4_furnaceAgrees_55 (by decide) ?_
        exact g_zret C hr hlk hW_34 hS_35 dX4_furnaceAgrees_56 rfl (by exact ⟨by simp only [agrW, b_11, b_20, b_37, if_true, if_false], rfl⟩)
      · refine lv_iconst (v := 1) hx hb dX4_furnaceAgrees_51 (by decide) ?_
        refine lv_goto (tgt := 56) hx hb dX4_furnaceAgrees_52 (by decide) ?_
        exact g_zret C hr hlk hW_34 hS_35 dX4_furnaceAgrees_56 rfl (by exact ⟨by simp only [agrW, b_11, b_20, b_37, if_true, if_false], rfl⟩)
  · refine lv_aload_n hx hb dX4_furnaceAgrees_17 rfl (lv_at hl_2 0 rfl) ?_
    refine g_calli (va_runV (As := []) (rest := []) C.1 (cX3_pointBySums_ok l G X (65 * n + (12 + 3 * f)) (65 * n + (13 + 3 * f)) n (9 + 6 * f) ((ves_fur (G := G) hp hf).mix)) (cwV 0 C.1.2.2.2.2 (gV qw_341 qw_342 qw_343 qw_73 qw_344) rfl rfl rfl (by decide +kernel) ⟨Nat.le_of_ble_eq_true rfl, Nat.le_of_ble_eq_true rfl⟩) (g_rMix C hW_8 hS_9 (ves_fur (G := G) hp hf).mix []) rfl rfl hl_2.1 rfl (lv_room (Nat.le_of_ble_eq_true rfl)) dX4_furnaceAgrees_18 ⟨Nat.zero_le _, Nat.zero_le _⟩) hS_9 (fun r_39 Y_40 H_41 locs_42 hW_43 hS_44 h_38 => ?_)
    obtain ⟨h_38, hy_45⟩ := h_38
    replace hy_45 := hy_45.symm
    subst hy_45
    subst h_38
    refine lv_aload_n hx hb dX4_furnaceAgrees_21 rfl (lv_at hl_2 0 rfl) ?_
    refine g_calli (va_runV (As := []) (rest := [.int (ptW (X.1 n) (9 + 6 * f))]) C.1 (cX3_pointByDifferences_ok l G X (65 * n + (12 + 3 * f)) (65 * n + (13 + 3 * f)) n (9 + 6 * f) ((ves_fur (G := G) hp hf).mix)) (cwV 0 C.1.2.2.2.2 (gV qw_347 qw_348 qw_349 qw_73 qw_350) rfl rfl rfl (by decide +kernel) ⟨Nat.le_of_ble_eq_true rfl, Nat.le_of_ble_eq_true rfl⟩) (g_rMix C hW_43 hS_44 (ves_fur (G := G) hp hf).mix []) rfl rfl hl_2.1 rfl (lv_room (Nat.le_of_ble_eq_true rfl)) dX4_furnaceAgrees_22 ⟨Nat.zero_le _, Nat.zero_le _⟩) hS_44 (fun r_47 Y_48 H_49 locs_50 hW_51 hS_52 h_46 => ?_)
    obtain ⟨h_46, hy_53⟩ := h_46
    replace hy_53 := hy_53.symm
    subst hy_53
    subst h_46
    refine lv_icmp_eq (tgt := 30) hx hb dX4_furnaceAgrees_25 (by decide) (fun b_54 => ?_) (fun b_54 => ?_)
    · refine lv_aload_n hx hb dX4_furnaceAgrees_30 rfl (lv_at hl_2 1 rfl) ?_
      refine lv_iload_n hx hb dX4_furnaceAgrees_31 rfl (lv_at hl_2 2 rfl) ?_
      refine g_calli (va_runV (As := [.int (nI f)]) (rest := []) C.1 (cX4_willBeMolten_ok l G X n hp f hf) (cwV 1 C.1.2.2.2.2 (gV qw_351 qw_352 qw_353 qw_72 qw_354) rfl rfl rfl (by decide +kernel) ⟨Nat.le_of_ble_eq_true rfl, Nat.le_of_ble_eq_true rfl⟩) (g_rPlant C hW_51 hS_52 hp [.int (nI f)]) rfl rfl hl_2.1 rfl (lv_room (Nat.le_of_ble_eq_true rfl)) dX4_furnaceAgrees_32 ⟨Nat.zero_le _, Nat.zero_le _⟩) hS_52 (fun r_56 Y_57 H_58 locs_59 hW_60 hS_61 h_55 => ?_)
      obtain ⟨h_55, hy_62⟩ := h_55
      replace hy_62 := hy_62.symm
      subst hy_62
      subst h_55
      refine lv_if_eq (tgt := 51) hx hb dX4_furnaceAgrees_35 (by decide) (fun b_63 => ?_) (fun b_63 => ?_)
      · refine lv_iconst (v := 1) hx hb dX4_furnaceAgrees_51 (by decide) ?_
        refine lv_goto (tgt := 56) hx hb dX4_furnaceAgrees_52 (by decide) ?_
        exact g_zret C hr hlk hW_60 hS_61 dX4_furnaceAgrees_56 rfl (by exact ⟨by simp only [agrW, b_11, b_54, b_63, if_true, if_false], rfl⟩)
      · refine lv_aload_n hx hb dX4_furnaceAgrees_38 rfl (lv_at hl_2 1 rfl) ?_
        refine lv_iload_n hx hb dX4_furnaceAgrees_39 rfl (lv_at hl_2 2 rfl) ?_
        refine g_calli (va_runV (As := [.int (nI f)]) (rest := []) C.1 (cX4_minutesByWaiting_ok l G X n hp f hf) (cwV 1 C.1.2.2.2.2 (gV qw_361 qw_362 qw_363 qw_72 qw_364) rfl rfl rfl (by decide +kernel) ⟨Nat.le_of_ble_eq_true rfl, Nat.le_of_ble_eq_true rfl⟩) (g_rPlant C hW_60 hS_61 hp [.int (nI f)]) rfl rfl hl_2.1 rfl (lv_room (Nat.le_of_ble_eq_true rfl)) dX4_furnaceAgrees_40 ⟨Nat.zero_le _, Nat.zero_le _⟩) hS_61 (fun r_65 Y_66 H_67 locs_68 hW_69 hS_70 h_64 => ?_)
        obtain ⟨h_64, hy_71⟩ := h_64
        replace hy_71 := hy_71.symm
        subst hy_71
        subst h_64
        refine lv_aload_n hx hb dX4_furnaceAgrees_43 rfl (lv_at hl_2 1 rfl) ?_
        refine lv_iload_n hx hb dX4_furnaceAgrees_44 rfl (lv_at hl_2 2 rfl) ?_
        refine g_calli (va_runV (As := [.int (nI f)]) (rest := [.int (mbwW (X.1 n) f)]) C.1 (cX4_minutesByDivision_ok l G X n hp f hf) (cwV 1 C.1.2.2.2.2 (gV qw_373 qw_374 qw_375 qw_72 qw_376) rfl rfl rfl (by decide +kernel) ⟨Nat.le_of_ble_eq_true rfl, Nat.le_of_ble_eq_true rfl⟩) (g_rPlant C hW_69 hS_70 hp [.int (nI f)]) rfl rfl hl_2.1 rfl (lv_room (Nat.le_of_ble_eq_true rfl)) dX4_furnaceAgrees_45 ⟨Nat.zero_le _, Nat.zero_le _⟩) hS_70 (fun r_73 Y_74 H_75 locs_76 hW_77 hS_78 h_72 => ?_)
        obtain ⟨h_72, hy_79⟩ := h_72
        replace hy_79 := hy_79.symm
        subst hy_79
        subst h_72
        refine lv_icmp_ne (tgt := 55) hx hb dX4_furnaceAgrees_48 (by decide) (fun b_80 => ?_) (fun b_80 => ?_)
        · refine lv_iconst (v := 0) hx hb dX4_furnaceAgrees_55 (by decide) ?_
          exact g_zret C hr hlk hW_77 hS_78 dX4_furnaceAgrees_56 rfl (by exact ⟨by simp only [agrW, b_11, b_54, b_63, b_80, if_true, if_false], rfl⟩)
        · refine lv_iconst (v := 1) hx hb dX4_furnaceAgrees_51 (by decide) ?_
          refine lv_goto (tgt := 56) hx hb dX4_furnaceAgrees_52 (by decide) ?_
          exact g_zret C hr hlk hW_77 hS_78 dX4_furnaceAgrees_56 rfl (by exact ⟨by simp only [agrW, b_11, b_54, b_63, b_80, if_true, if_false], rfl⟩)
    · refine lv_iconst (v := 0) hx hb dX4_furnaceAgrees_28 (by decide) ?_
      exact g_zret C hr hlk hW_51 hS_52 dX4_furnaceAgrees_29 rfl (by exact ⟨by simp only [agrW, b_11, b_54, if_true, if_false], rfl⟩)

set_option maxHeartbeats 4000000 in
set_option maxRecDepth 100000 in
theorem cX4_stockInPlaces_ok (l : Launch) (G : GT) (X : St) (n : Nat) (hp : n < 11) (hi : PInv (X.1 n)) (j : Nat) (hj : j < 4) : MetI l G yX4_stockInPlaces (wsG yX4_stockInPlaces cX4_stockInPlaces 4 (some .int)) (rmz 0 0) [.ref (ad G (65 * n + 0)), .int (nI j)] X (fun res Y => res = stkW (X.1 n) j ∧ Y = X) := by
  refine g_met (cc := cX4_stockInPlaces) (maxL := 4) (ret := (some .int)) (by decide) rfl (Nat.le_of_ble_eq_true rfl) ?_
  intro p e s m below meth c ls C hr hlk hnm hW hl
  have hx := C.1.1
  have hb := C.1.2.1
  have hS : va_S (Ab G) s.heap s.heap [] := va_S.rf
  have hl : lv_has ls 4 [(0, .ref (ad G (65 * n + 0))), (1, .int (nI j))] := hl
  obtain ⟨⟨km, hkm, em⟩, ⟨ki, hki, ei⟩⟩ := hi
  refine lv_iconst (v := 0) hx hb dX4_stockInPlaces_0 (by decide) ?_
  refine lv_istore_n (lv' := [(2, .int 0), (0, .ref (ad G (65 * n + 0))), (1, .int (nI j))]) hx hb dX4_stockInPlaces_1 rfl hl (by decide) rfl (fun ls_1 hl_2 => ?_)
  refine lv_iconst (v := 0) hx hb dX4_stockInPlaces_2 (by decide) ?_
  refine lv_istore_n (lv' := [(3, .int 0), (2, .int 0), (0, .ref (ad G (65 * n + 0))), (1, .int (nI j))]) hx hb dX4_stockInPlaces_3 rfl hl_2 (by decide) rfl (fun ls_3 hl_4 => ?_)
  refine lv_iload_n hx hb dX4_stockInPlaces_4 rfl (lv_at hl_4 0 rfl) ?_
  refine lv_iconst (v := 3) hx hb dX4_stockInPlaces_5 (by decide) ?_
  refine lv_icmp_ge (tgt := 32) hx hb dX4_stockInPlaces_6 (by decide) (fun h9 => absurd h9 (by decide)) (fun _ => ?_)
  refine lv_iload_n hx hb dX4_stockInPlaces_9 rfl (lv_at hl_4 1 rfl) ?_
  refine lv_aload_n hx hb dX4_stockInPlaces_10 rfl (lv_at hl_4 2 rfl) ?_
  refine gP_furnaces C hW hp (hwc hwX4) (mc qw_155) dX4_stockInPlaces_11 ?_
  refine lv_iload_n hx hb dX4_stockInPlaces_14 rfl (lv_at hl_4 0 rfl) ?_
  refine g_fur C hW hp 0 (by decide) (vlit (by decide)) dX4_stockInPlaces_15 ?_
  refine g_contentN C hW (ves_fur (G := G) hp (by decide)) (hwc hwX6) nw_20 dX4_stockInPlaces_16 ?_
  refine g_massesN C hW (ves_fur (G := G) hp (by decide)).mix (hwc hwX3) nw_21 dX4_stockInPlaces_19 ?_
  refine lv_iload_n hx hb dX4_stockInPlaces_22 rfl (lv_at hl_4 3 rfl) ?_
  refine g_mld C hW (ves_fur (G := G) hp (by decide)).mix j (nI_clamp (by omega)) (vp_in_nI hj (by decide)) dX4_stockInPlaces_23 ?_
  refine lv_iadd hx hb dX4_stockInPlaces_24 ?_
  refine g_top (y := (X.1 n (9 + 6 * 0 + j))) (Int32.zero_add _) ?_
  refine lv_topi (fun v_5 ev_5 => ?_)
  refine lv_istore_n (lv' := [(2, .int v_5), (3, .int 0), (0, .ref (ad G (65 * n + 0))), (1, .int (nI j))]) hx hb dX4_stockInPlaces_25 rfl hl_4 (by decide) rfl (fun ls_6 hl_7 => ?_)
  refine lv_iinc (v := 1) (lv' := [(3, .int 1), (2, .int v_5), (0, .ref (ad G (65 * n + 0))), (1, .int (nI j))]) hx hb dX4_stockInPlaces_26 hl_7 (k := 1) rfl (by decide) (by decide) rfl (fun ls_8 hl_9 => ?_)
  refine lv_goto (tgt := 4) hx hb dX4_stockInPlaces_29 (by decide) ?_
  refine lv_iload_n hx hb dX4_stockInPlaces_4 rfl (lv_at hl_9 0 rfl) ?_
  refine lv_iconst (v := 3) hx hb dX4_stockInPlaces_5 (by decide) ?_
  refine lv_icmp_ge (tgt := 32) hx hb dX4_stockInPlaces_6 (by decide) (fun h9 => absurd h9 (by decide)) (fun _ => ?_)
  refine lv_iload_n hx hb dX4_stockInPlaces_9 rfl (lv_at hl_9 1 rfl) ?_
  refine lv_aload_n hx hb dX4_stockInPlaces_10 rfl (lv_at hl_9 2 rfl) ?_
  refine gP_furnaces C hW hp (hwc hwX4) (mc qw_155) dX4_stockInPlaces_11 ?_
  refine lv_iload_n hx hb dX4_stockInPlaces_14 rfl (lv_at hl_9 0 rfl) ?_
  refine g_fur C hW hp 1 (by decide) (vlit (by decide)) dX4_stockInPlaces_15 ?_
  refine g_contentN C hW (ves_fur (G := G) hp (by decide)) (hwc hwX6) nw_20 dX4_stockInPlaces_16 ?_
  refine g_massesN C hW (ves_fur (G := G) hp (by decide)).mix (hwc hwX3) nw_21 dX4_stockInPlaces_19 ?_
  refine lv_iload_n hx hb dX4_stockInPlaces_22 rfl (lv_at hl_9 3 rfl) ?_
  refine g_mld C hW (ves_fur (G := G) hp (by decide)).mix j (nI_clamp (by omega)) (vp_in_nI hj (by decide)) dX4_stockInPlaces_23 ?_
  refine lv_iadd hx hb dX4_stockInPlaces_24 ?_
  refine lv_topi (fun v_10 ev_10 => ?_)
  refine lv_istore_n (lv' := [(2, .int v_10), (3, .int 1), (0, .ref (ad G (65 * n + 0))), (1, .int (nI j))]) hx hb dX4_stockInPlaces_25 rfl hl_9 (by decide) rfl (fun ls_11 hl_12 => ?_)
  refine lv_iinc (v := 2) (lv' := [(3, .int 2), (2, .int v_10), (0, .ref (ad G (65 * n + 0))), (1, .int (nI j))]) hx hb dX4_stockInPlaces_26 hl_12 (k := 1) rfl (by decide) (by decide) rfl (fun ls_13 hl_14 => ?_)
  refine lv_goto (tgt := 4) hx hb dX4_stockInPlaces_29 (by decide) ?_
  refine lv_iload_n hx hb dX4_stockInPlaces_4 rfl (lv_at hl_14 0 rfl) ?_
  refine lv_iconst (v := 3) hx hb dX4_stockInPlaces_5 (by decide) ?_
  refine lv_icmp_ge (tgt := 32) hx hb dX4_stockInPlaces_6 (by decide) (fun h9 => absurd h9 (by decide)) (fun _ => ?_)
  refine lv_iload_n hx hb dX4_stockInPlaces_9 rfl (lv_at hl_14 1 rfl) ?_
  refine lv_aload_n hx hb dX4_stockInPlaces_10 rfl (lv_at hl_14 2 rfl) ?_
  refine gP_furnaces C hW hp (hwc hwX4) (mc qw_155) dX4_stockInPlaces_11 ?_
  refine lv_iload_n hx hb dX4_stockInPlaces_14 rfl (lv_at hl_14 0 rfl) ?_
  refine g_fur C hW hp 2 (by decide) (vlit (by decide)) dX4_stockInPlaces_15 ?_
  refine g_contentN C hW (ves_fur (G := G) hp (by decide)) (hwc hwX6) nw_20 dX4_stockInPlaces_16 ?_
  refine g_massesN C hW (ves_fur (G := G) hp (by decide)).mix (hwc hwX3) nw_21 dX4_stockInPlaces_19 ?_
  refine lv_iload_n hx hb dX4_stockInPlaces_22 rfl (lv_at hl_14 3 rfl) ?_
  refine g_mld C hW (ves_fur (G := G) hp (by decide)).mix j (nI_clamp (by omega)) (vp_in_nI hj (by decide)) dX4_stockInPlaces_23 ?_
  refine lv_iadd hx hb dX4_stockInPlaces_24 ?_
  refine lv_topi (fun v_15 ev_15 => ?_)
  refine lv_istore_n (lv' := [(2, .int v_15), (3, .int 2), (0, .ref (ad G (65 * n + 0))), (1, .int (nI j))]) hx hb dX4_stockInPlaces_25 rfl hl_14 (by decide) rfl (fun ls_16 hl_17 => ?_)
  refine lv_iinc (v := 3) (lv' := [(3, .int 3), (2, .int v_15), (0, .ref (ad G (65 * n + 0))), (1, .int (nI j))]) hx hb dX4_stockInPlaces_26 hl_17 (k := 1) rfl (by decide) (by decide) rfl (fun ls_18 hl_19 => ?_)
  refine lv_goto (tgt := 4) hx hb dX4_stockInPlaces_29 (by decide) ?_
  refine lv_iload_n hx hb dX4_stockInPlaces_4 rfl (lv_at hl_19 0 rfl) ?_
  refine lv_iconst (v := 3) hx hb dX4_stockInPlaces_5 (by decide) ?_
  refine lv_icmp_ge (tgt := 32) hx hb dX4_stockInPlaces_6 (by decide) (fun _ => ?_) (fun h9 => absurd h9 (by decide))
  refine lv_iconst (v := 0) hx hb dX4_stockInPlaces_32 (by decide) ?_
  refine lv_istore_n (lv' := [(3, .int 0), (2, .int v_15), (0, .ref (ad G (65 * n + 0))), (1, .int (nI j))]) hx hb dX4_stockInPlaces_33 rfl hl_19 (by decide) rfl (fun ls_20 hl_21 => ?_)
  refine lv_iload_n hx hb dX4_stockInPlaces_34 rfl (lv_at hl_21 0 rfl) ?_
  refine lv_iconst (v := 3) hx hb dX4_stockInPlaces_35 (by decide) ?_
  refine lv_icmp_ge (tgt := 62) hx hb dX4_stockInPlaces_36 (by decide) (fun h9 => absurd h9 (by decide)) (fun _ => ?_)
  refine lv_iload_n hx hb dX4_stockInPlaces_39 rfl (lv_at hl_21 1 rfl) ?_
  refine lv_aload_n hx hb dX4_stockInPlaces_40 rfl (lv_at hl_21 2 rfl) ?_
  refine gP_ladles C hW hp (hwc hwX4) (mc qw_159) dX4_stockInPlaces_41 ?_
  refine lv_iload_n hx hb dX4_stockInPlaces_44 rfl (lv_at hl_21 0 rfl) ?_
  refine g_lad C hW hp 0 (by decide) (vlit (by decide)) dX4_stockInPlaces_45 ?_
  refine g_contentN C hW (ves_lad (G := G) hp (by decide)) (hwc hwX6) nw_20 dX4_stockInPlaces_46 ?_
  refine g_massesN C hW (ves_lad (G := G) hp (by decide)).mix (hwc hwX3) nw_21 dX4_stockInPlaces_49 ?_
  refine lv_iload_n hx hb dX4_stockInPlaces_52 rfl (lv_at hl_21 3 rfl) ?_
  refine g_mld C hW (ves_lad (G := G) hp (by decide)).mix j (nI_clamp (by omega)) (vp_in_nI hj (by decide)) dX4_stockInPlaces_53 ?_
  refine lv_iadd hx hb dX4_stockInPlaces_54 ?_
  refine lv_topi (fun v_22 ev_22 => ?_)
  refine lv_istore_n (lv' := [(2, .int v_22), (3, .int 0), (0, .ref (ad G (65 * n + 0))), (1, .int (nI j))]) hx hb dX4_stockInPlaces_55 rfl hl_21 (by decide) rfl (fun ls_23 hl_24 => ?_)
  refine lv_iinc (v := 1) (lv' := [(3, .int 1), (2, .int v_22), (0, .ref (ad G (65 * n + 0))), (1, .int (nI j))]) hx hb dX4_stockInPlaces_56 hl_24 (k := 1) rfl (by decide) (by decide) rfl (fun ls_25 hl_26 => ?_)
  refine lv_goto (tgt := 34) hx hb dX4_stockInPlaces_59 (by decide) ?_
  refine lv_iload_n hx hb dX4_stockInPlaces_34 rfl (lv_at hl_26 0 rfl) ?_
  refine lv_iconst (v := 3) hx hb dX4_stockInPlaces_35 (by decide) ?_
  refine lv_icmp_ge (tgt := 62) hx hb dX4_stockInPlaces_36 (by decide) (fun h9 => absurd h9 (by decide)) (fun _ => ?_)
  refine lv_iload_n hx hb dX4_stockInPlaces_39 rfl (lv_at hl_26 1 rfl) ?_
  refine lv_aload_n hx hb dX4_stockInPlaces_40 rfl (lv_at hl_26 2 rfl) ?_
  refine gP_ladles C hW hp (hwc hwX4) (mc qw_159) dX4_stockInPlaces_41 ?_
  refine lv_iload_n hx hb dX4_stockInPlaces_44 rfl (lv_at hl_26 0 rfl) ?_
  refine g_lad C hW hp 1 (by decide) (vlit (by decide)) dX4_stockInPlaces_45 ?_
  refine g_contentN C hW (ves_lad (G := G) hp (by decide)) (hwc hwX6) nw_20 dX4_stockInPlaces_46 ?_
  refine g_massesN C hW (ves_lad (G := G) hp (by decide)).mix (hwc hwX3) nw_21 dX4_stockInPlaces_49 ?_
  refine lv_iload_n hx hb dX4_stockInPlaces_52 rfl (lv_at hl_26 3 rfl) ?_
  refine g_mld C hW (ves_lad (G := G) hp (by decide)).mix j (nI_clamp (by omega)) (vp_in_nI hj (by decide)) dX4_stockInPlaces_53 ?_
  refine lv_iadd hx hb dX4_stockInPlaces_54 ?_
  refine lv_topi (fun v_27 ev_27 => ?_)
  refine lv_istore_n (lv' := [(2, .int v_27), (3, .int 1), (0, .ref (ad G (65 * n + 0))), (1, .int (nI j))]) hx hb dX4_stockInPlaces_55 rfl hl_26 (by decide) rfl (fun ls_28 hl_29 => ?_)
  refine lv_iinc (v := 2) (lv' := [(3, .int 2), (2, .int v_27), (0, .ref (ad G (65 * n + 0))), (1, .int (nI j))]) hx hb dX4_stockInPlaces_56 hl_29 (k := 1) rfl (by decide) (by decide) rfl (fun ls_30 hl_31 => ?_)
  refine lv_goto (tgt := 34) hx hb dX4_stockInPlaces_59 (by decide) ?_
  refine lv_iload_n hx hb dX4_stockInPlaces_34 rfl (lv_at hl_31 0 rfl) ?_
  refine lv_iconst (v := 3) hx hb dX4_stockInPlaces_35 (by decide) ?_
  refine lv_icmp_ge (tgt := 62) hx hb dX4_stockInPlaces_36 (by decide) (fun h9 => absurd h9 (by decide)) (fun _ => ?_)
  refine lv_iload_n hx hb dX4_stockInPlaces_39 rfl (lv_at hl_31 1 rfl) ?_
  refine lv_aload_n hx hb dX4_stockInPlaces_40 rfl (lv_at hl_31 2 rfl) ?_
  refine gP_ladles C hW hp (hwc hwX4) (mc qw_159) dX4_stockInPlaces_41 ?_
  refine lv_iload_n hx hb dX4_stockInPlaces_44 rfl (lv_at hl_31 0 rfl) ?_
  refine g_lad C hW hp 2 (by decide) (vlit (by decide)) dX4_stockInPlaces_45 ?_
  refine g_contentN C hW (ves_lad (G := G) hp (by decide)) (hwc hwX6) nw_20 dX4_stockInPlaces_46 ?_
  refine g_massesN C hW (ves_lad (G := G) hp (by decide)).mix (hwc hwX3) nw_21 dX4_stockInPlaces_49 ?_
  refine lv_iload_n hx hb dX4_stockInPlaces_52 rfl (lv_at hl_31 3 rfl) ?_
  refine g_mld C hW (ves_lad (G := G) hp (by decide)).mix j (nI_clamp (by omega)) (vp_in_nI hj (by decide)) dX4_stockInPlaces_53 ?_
  refine lv_iadd hx hb dX4_stockInPlaces_54 ?_
  refine lv_topi (fun v_32 ev_32 => ?_)
  refine lv_istore_n (lv' := [(2, .int v_32), (3, .int 2), (0, .ref (ad G (65 * n + 0))), (1, .int (nI j))]) hx hb dX4_stockInPlaces_55 rfl hl_31 (by decide) rfl (fun ls_33 hl_34 => ?_)
  refine lv_iinc (v := 3) (lv' := [(3, .int 3), (2, .int v_32), (0, .ref (ad G (65 * n + 0))), (1, .int (nI j))]) hx hb dX4_stockInPlaces_56 hl_34 (k := 1) rfl (by decide) (by decide) rfl (fun ls_35 hl_36 => ?_)
  refine lv_goto (tgt := 34) hx hb dX4_stockInPlaces_59 (by decide) ?_
  refine lv_iload_n hx hb dX4_stockInPlaces_34 rfl (lv_at hl_36 0 rfl) ?_
  refine lv_iconst (v := 3) hx hb dX4_stockInPlaces_35 (by decide) ?_
  refine lv_icmp_ge (tgt := 62) hx hb dX4_stockInPlaces_36 (by decide) (fun _ => ?_) (fun h9 => absurd h9 (by decide))
  refine lv_iconst (v := 0) hx hb dX4_stockInPlaces_62 (by decide) ?_
  refine lv_istore_n (lv' := [(3, .int 0), (2, .int v_32), (0, .ref (ad G (65 * n + 0))), (1, .int (nI j))]) hx hb dX4_stockInPlaces_63 rfl hl_36 (by decide) rfl (fun ls_37 hl_38 => ?_)
  have loop : ∀ (q : Nat) (kk : Nat) (aa : Int32) (H : Heap) (locs : List Loc) (ls : Array Slot), kk + q = km → aa = accL (X.1 n) 44 6 j kk (stk0 (X.1 n) j) → Wd G (X) H → va_S (Ab G) s.heap H locs → lv_has ls 4 [(3, .int (nI kk)), (2, .int aa), (0, .ref (ad G (65 * n + 0))), (1, .int (nI j))] → W p l e (rmz 0 0) s m ([.ref (ad G (65 * n + 0)), .int (nI j)] : List Value).toArray below meth c H locs 0 0 (MQ below (Ki G (fun res Y => res = stkW (X.1 n) j ∧ Y = X)) ([.ref (ad G (65 * n + 0)), .int (nI j)] : List Value).toArray s 0 0 (Ab G)) (F0 m 64 ls []) := by
    intro q
    induction q with
    | zero =>
      intro kk aa H locs ls hq ha1 hW hS hl
      refine lv_iload_n hx hb dX4_stockInPlaces_64 rfl (lv_at hl 0 rfl) ?_
      refine lv_aload_n hx hb dX4_stockInPlaces_65 rfl (lv_at hl 2 rfl) ?_
      refine gP_mouldCount C hW hp (hwc hwX4) (mc qw_165) dX4_stockInPlaces_66 ?_
      refine g_top (y := nI km) em ?_
      refine lv_icmp_ge (tgt := 92) hx hb dX4_stockInPlaces_69 (by decide) (fun _ => ?_) (fun h9 => absurd (nI_le (by omega) (by omega)) h9)
      refine lv_iconst (v := 0) hx hb dX4_stockInPlaces_92 (by decide) ?_
      refine lv_istore_n (lv' := [(3, .int 0), (2, .int aa), (0, .ref (ad G (65 * n + 0))), (1, .int (nI j))]) hx hb dX4_stockInPlaces_93 rfl hl (by decide) rfl (fun ls_39 hl_40 => ?_)
      have hkm : kk = km := by omega
      have loop : ∀ (q : Nat) (ii : Nat) (bb : Int32) (H : Heap) (locs : List Loc) (ls : Array Slot), ii + q = ki → bb = accL (X.1 n) 80 4 j ii (accL (X.1 n) 44 6 j km (stk0 (X.1 n) j)) → Wd G (X) H → va_S (Ab G) s.heap H locs → lv_has ls 4 [(3, .int (nI ii)), (2, .int bb), (0, .ref (ad G (65 * n + 0))), (1, .int (nI j))] → W p l e (rmz 0 0) s m ([.ref (ad G (65 * n + 0)), .int (nI j)] : List Value).toArray below meth c H locs 0 0 (MQ below (Ki G (fun res Y => res = stkW (X.1 n) j ∧ Y = X)) ([.ref (ad G (65 * n + 0)), .int (nI j)] : List Value).toArray s 0 0 (Ab G)) (F0 m 94 ls []) := by
        intro q
        induction q with
        | zero =>
          intro ii bb H locs ls hq2 ha2 hW hS hl
          refine lv_iload_n hx hb dX4_stockInPlaces_94 rfl (lv_at hl 0 rfl) ?_
          refine lv_aload_n hx hb dX4_stockInPlaces_95 rfl (lv_at hl 2 rfl) ?_
          refine gP_ingotCount C hW hp (hwc hwX4) (mc qw_169) dX4_stockInPlaces_96 ?_
          refine g_top (y := nI ki) ei ?_
          refine lv_icmp_ge (tgt := 122) hx hb dX4_stockInPlaces_99 (by decide) (fun _ => ?_) (fun h9 => absurd (nI_le (by omega) (by omega)) h9)
          refine lv_iload_n hx hb dX4_stockInPlaces_122 rfl (lv_at hl 1 rfl) ?_
          exact g_iret C hr hlk hW hS dX4_stockInPlaces_123 ⟨by rw [ha2, stkW, em, ei, clf (show km < 2 ^ 31 by omega), clf (show ki < 2 ^ 31 by omega), show ii = ki by omega], rfl⟩
        | succ q ih =>
          intro ii bb H locs ls hq2 ha2 hW hS hl
          refine lv_iload_n hx hb dX4_stockInPlaces_94 rfl (lv_at hl 0 rfl) ?_
          refine lv_aload_n hx hb dX4_stockInPlaces_95 rfl (lv_at hl 2 rfl) ?_
          refine gP_ingotCount C hW hp (hwc hwX4) (mc qw_169) dX4_stockInPlaces_96 ?_
          refine g_top (y := nI ki) ei ?_
          refine lv_icmp_ge (tgt := 122) hx hb dX4_stockInPlaces_99 (by decide) (fun h9 => absurd h9 (nI_ge (by omega) (by omega))) (fun _ => ?_)
          refine lv_iload_n hx hb dX4_stockInPlaces_102 rfl (lv_at hl 1 rfl) ?_
          refine lv_aload_n hx hb dX4_stockInPlaces_103 rfl (lv_at hl 2 rfl) ?_
          refine gP_ingots C hW hp (hwc hwX4) (mc qw_167) dX4_stockInPlaces_104 ?_
          refine lv_iload_n hx hb dX4_stockInPlaces_107 rfl (lv_at hl 0 rfl) ?_
          refine g_ing C hW hp ii (nI_clamp (by omega)) (vp_in_nI (show ii < 12 by omega) (by decide)) dX4_stockInPlaces_108 ?_
          refine g_massesN C hW (mix_ing (G := G) hp (show ii < 12 by omega)) (hwc hwX3) nw_21 dX4_stockInPlaces_109 ?_
          refine lv_iload_n hx hb dX4_stockInPlaces_112 rfl (lv_at hl 3 rfl) ?_
          refine g_mld C hW (mix_ing (G := G) hp (show ii < 12 by omega)) j (nI_clamp (by omega)) (vp_in_nI hj (by decide)) dX4_stockInPlaces_113 ?_
          refine lv_iadd hx hb dX4_stockInPlaces_114 ?_
          refine lv_topi (fun v_41 ev_41 => ?_)
          refine lv_istore_n (lv' := [(2, .int v_41), (3, .int (nI ii)), (0, .ref (ad G (65 * n + 0))), (1, .int (nI j))]) hx hb dX4_stockInPlaces_115 rfl hl (by decide) rfl (fun ls_42 hl_43 => ?_)
          refine lv_iinc (v := nI (ii + 1)) (lv' := [(3, .int (nI (ii + 1))), (2, .int v_41), (0, .ref (ad G (65 * n + 0))), (1, .int (nI j))]) hx hb dX4_stockInPlaces_116 hl_43 (k := 1) rfl (nI_1 ii) (by decide) rfl (fun ls_44 hl_45 => ?_)
          refine lv_goto (tgt := 94) hx hb dX4_stockInPlaces_119 (by decide) ?_
          exact ih (ii + 1) v_41 H locs ls_44 (by omega) (by subst ev_41; rw [ha2]; rfl) hW hS (lv_sub hl_45 [0, 1, 2, 3] rfl)
      exact loop ki 0 aa H locs ls_39 (by omega) (by rw [← hkm]; exact ha1) hW hS (lv_sub hl_40 [0, 1, 2, 3] rfl)
    | succ q ih =>
      intro kk aa H locs ls hq ha1 hW hS hl
      refine lv_iload_n hx hb dX4_stockInPlaces_64 rfl (lv_at hl 0 rfl) ?_
      refine lv_aload_n hx hb dX4_stockInPlaces_65 rfl (lv_at hl 2 rfl) ?_
      refine gP_mouldCount C hW hp (hwc hwX4) (mc qw_165) dX4_stockInPlaces_66 ?_
      refine g_top (y := nI km) em ?_
      refine lv_icmp_ge (tgt := 92) hx hb dX4_stockInPlaces_69 (by decide) (fun h9 => absurd h9 (nI_ge (by omega) (by omega))) (fun _ => ?_)
      refine lv_iload_n hx hb dX4_stockInPlaces_72 rfl (lv_at hl 1 rfl) ?_
      refine lv_aload_n hx hb dX4_stockInPlaces_73 rfl (lv_at hl 2 rfl) ?_
      refine gP_moulds C hW hp (hwc hwX4) (mc qw_161) dX4_stockInPlaces_74 ?_
      refine lv_iload_n hx hb dX4_stockInPlaces_77 rfl (lv_at hl 0 rfl) ?_
      refine g_mou C hW hp kk (nI_clamp (by omega)) (vp_in_nI (show kk < 6 by omega) (by decide)) dX4_stockInPlaces_78 ?_
      refine g_massesN C hW (mix_mou (G := G) hp (show kk < 6 by omega)) (hwc hwX3) nw_21 dX4_stockInPlaces_79 ?_
      refine lv_iload_n hx hb dX4_stockInPlaces_82 rfl (lv_at hl 3 rfl) ?_
      refine g_mld C hW (mix_mou (G := G) hp (show kk < 6 by omega)) j (nI_clamp (by omega)) (vp_in_nI hj (by decide)) dX4_stockInPlaces_83 ?_
      refine lv_iadd hx hb dX4_stockInPlaces_84 ?_
      refine lv_topi (fun v_46 ev_46 => ?_)
      refine lv_istore_n (lv' := [(2, .int v_46), (3, .int (nI kk)), (0, .ref (ad G (65 * n + 0))), (1, .int (nI j))]) hx hb dX4_stockInPlaces_85 rfl hl (by decide) rfl (fun ls_47 hl_48 => ?_)
      refine lv_iinc (v := nI (kk + 1)) (lv' := [(3, .int (nI (kk + 1))), (2, .int v_46), (0, .ref (ad G (65 * n + 0))), (1, .int (nI j))]) hx hb dX4_stockInPlaces_86 hl_48 (k := 1) rfl (nI_1 kk) (by decide) rfl (fun ls_49 hl_50 => ?_)
      refine lv_goto (tgt := 64) hx hb dX4_stockInPlaces_89 (by decide) ?_
      exact ih (kk + 1) v_46 H locs ls_49 (by omega) (by subst ev_46; rw [ha1]; rfl) hW hS (lv_sub hl_50 [0, 1, 2, 3] rfl)
  exact loop km 0 v_32 s.heap [] ls_37 (by omega) (by subst ev_32; subst ev_27; subst ev_22; subst ev_15; subst ev_10; subst ev_5; rfl) hW hS (lv_sub hl_38 [0, 1, 2, 3] rfl)

set_option maxHeartbeats 4000000 in
set_option maxRecDepth 100000 in
theorem cX4_stockInAccounts_ok (l : Launch) (G : GT) (X : St) (n : Nat) (hp : n < 11) (j : Nat) (hj : j < 4) : MetI l G yX4_stockInAccounts (wsG yX4_stockInAccounts cX4_stockInAccounts 2 (some .int)) (rmz 0 0) [.ref (ad G (65 * n + 0)), .int (nI j)] X (fun res Y => res = X.1 n (1 + j) - X.1 n (5 + j) ∧ Y = X) := by
  refine g_met (cc := cX4_stockInAccounts) (maxL := 2) (ret := (some .int)) (by decide) rfl (Nat.le_of_ble_eq_true rfl) ?_
  intro p e s m below meth c ls C hr hlk hnm hW hl
  have hx := C.1.1
  have hb := C.1.2.1
  have hS : va_S (Ab G) s.heap s.heap [] := va_S.rf
  have hl : lv_has ls 2 [(0, .ref (ad G (65 * n + 0))), (1, .int (nI j))] := hl
  refine lv_aload_n hx hb dX4_stockInAccounts_0 rfl (lv_at hl 0 rfl) ?_
  refine gP_chargedSoFar C hW hp (hwc hwX4) (mc qw_171) dX4_stockInAccounts_1 ?_
  refine g_massesN C hW (mix_chg hp) (hwc hwX3) nw_21 dX4_stockInAccounts_4 ?_
  refine lv_iload_n hx hb dX4_stockInAccounts_7 rfl (lv_at hl 1 rfl) ?_
  refine g_mld C hW (mix_chg hp) j (nI_clamp (by omega)) (vp_in_nI hj (by decide)) dX4_stockInAccounts_8 ?_
  refine lv_aload_n hx hb dX4_stockInAccounts_9 rfl (lv_at hl 0 rfl) ?_
  refine gP_slagSoFar C hW hp (hwc hwX4) (mc qw_173) dX4_stockInAccounts_10 ?_
  refine g_massesN C hW (mix_slag hp) (hwc hwX3) nw_21 dX4_stockInAccounts_13 ?_
  refine lv_iload_n hx hb dX4_stockInAccounts_16 rfl (lv_at hl 1 rfl) ?_
  refine g_mld C hW (mix_slag hp) j (nI_clamp (by omega)) (vp_in_nI hj (by decide)) dX4_stockInAccounts_17 ?_
  refine lv_isub hx hb dX4_stockInAccounts_18 ?_
  exact g_iret C hr hlk hW hS dX4_stockInAccounts_19 (by exact ⟨rfl, rfl⟩)
