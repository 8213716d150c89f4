/-! What the plant's methods answer and do, on its row. -/
def imin (x y : Int32) : Int32 := if y < x then y else x
theorem clf {f : Nat} (h : f < 2 ^ 31) : (nI f).toNatClampNeg = f := nI_clamp h
def PInv (w : Nat → Int32) : Prop := (∃ k, k ≤ 6 ∧ w 42 = nI k) ∧ ∃ k, k ≤ 12 ∧ w 43 = nI k
theorem sOut_in {x : Int32} {n : Nat} (hn : n < 2 ^ 31) (h : sOut x (nI n) = 0) : ∃ f, f < n ∧ x = nI f := by
  unfold sOut at h
  by_cases h1 : x < 0
  · rw [if_pos h1] at h
    exact absurd h (by decide)
  · rw [if_neg h1] at h
    by_cases h2 : x < nI n
    · obtain ⟨j, hj, rfl⟩ := nI_of h1
      exact ⟨j, (nI_ltI hj hn).mp h2, rfl⟩
    · rw [if_neg h2] at h
      exact absurd h (by decide)
theorem sOut_in3 {x : Int32} (h : sOut x 3 = 0) : ∃ f, f < 3 ∧ x = nI f := sOut_in (n := 3) (by decide) h
theorem matOf_in {x v : Int32} (e : v = matOf x) (h : ¬ v = -1) : ∃ j, j < 4 ∧ v = nI j := by
  subst e
  unfold matOf at h ⊢
  by_cases h1 : 99 = x
  · exact ⟨0, by decide, by rw [if_pos h1]; rfl⟩
  · rw [if_neg h1] at h ⊢
    by_cases h2 : 116 = x
    · exact ⟨1, by decide, by rw [if_pos h2]; rfl⟩
    · rw [if_neg h2] at h ⊢
      by_cases h3 : 108 = x
      · exact ⟨2, by decide, by rw [if_pos h3]; rfl⟩
      · rw [if_neg h3] at h ⊢
        by_cases h4 : 111 = x
        · exact ⟨3, by decide, by rw [if_pos h4]; rfl⟩
        · rw [if_neg h4] at h
          exact absurd rfl h
theorem nI_lt6 {k : Nat} (hk : k < 2 ^ 31) (h : nI k < 6) : k < 6 := (nI_ltI (b := 6) hk (by decide)).mp h
theorem nI_lt12 {k : Nat} (hk : k < 2 ^ 31) (h : nI k < 12) : k < 12 := (nI_ltI (b := 12) hk (by decide)).mp h
theorem kp_clrR {w : Nat → Int32} {i j : Nat} (h : j < i ∨ i + 4 ≤ j) : clrR w i j = w j := by
  unfold clrR
  rw [pk_un (by omega), pk_un (by omega), pk_un (by omega), pk_un (by omega)]
def riseW (w : Nat → Int32) (f : Nat) : Int32 := 10 * w (14 + 6 * f) - 5
def wbmW (w : Nat → Int32) (f : Nat) : Int32 := if liqW w (9 + 6 * f) = 0 then (if sumW w (9 + 6 * f) ≤ 0 then 0 else if w (14 + 6 * f) ≤ 0 then 0 else 1) else 1
def mbdW (w : Nat → Int32) (f : Nat) : Int32 := if ptW w (9 + 6 * f) - w (9 + 6 * f + 4) ≤ 0 then 0 else if 0 < riseW w f then (ptW w (9 + 6 * f) - w (9 + 6 * f + 4) + riseW w f - 1) / riseW w f else 0
def fcfW (w : Nat → Int32) (f g : Nat) : Int32 := if w (9 + 6 * f + 4) = w (9 + 6 * g + 4) then (if sumW w (9 + 6 * f) = sumW w (9 + 6 * g) then (if nI g ≤ nI f then 0 else 1) else if sumW w (9 + 6 * f) ≤ sumW w (9 + 6 * g) then 0 else 1) else if w (9 + 6 * f + 4) ≤ w (9 + 6 * g + 4) then 0 else 1
def stokeR (w : Nat → Int32) (x y : Int32) : Int32 × (Nat → Int32) := if sOut x 3 = 0 then (if y < 0 then (-2, w) else if y ≤ 5 then (w (14 + 6 * x.toNatClampNeg), upd w (14 + 6 * x.toNatClampNeg) y) else (-2, w)) else (-1, w)
def addSolidR (w : Nat → Int32) (x y z : Int32) : Int32 × (Nat → Int32) :=
  if sOut x 3 = 0 then
    if matOf y = -1 then (-2, w) else if z < 1 then (-2, w) else if z ≤ 50 then
      if sumW w (9 + 6 * x.toNatClampNeg) + z ≤ 100 then
        let w1 := blendR w (9 + 6 * x.toNatClampNeg) 10 z 20
        let w2 := upd w1 (9 + 6 * x.toNatClampNeg + (matOf y).toNatClampNeg) (w1 (9 + 6 * x.toNatClampNeg + (matOf y).toNatClampNeg) + z)
        let w3 := upd w2 (1 + (matOf y).toNatClampNeg) (w2 (1 + (matOf y).toNatClampNeg) + z)
        (w3 (9 + 6 * x.toNatClampNeg + 4), w3)
      else (-5, w)
    else (-2, w)
  else (-1, w)
def giveBackR (w : Nat → Int32) (x y : Int32) : Int32 × (Nat → Int32) :=
  if sOut x 3 = 0 then if sOut y 3 = 0 then
    if sumW w (27 + 5 * x.toNatClampNeg) = 0 then (-3, w) else
    if sumW w (9 + 6 * y.toNatClampNeg) + sumW w (27 + 5 * x.toNatClampNeg) ≤ 100 then
      let w1 := blendR w (9 + 6 * y.toNatClampNeg) 10 (sumW w (27 + 5 * x.toNatClampNeg)) (w (27 + 5 * x.toNatClampNeg + 4))
      let w2 := addAllR w1 (9 + 6 * y.toNatClampNeg) (27 + 5 * x.toNatClampNeg)
      let w3 := clrR w2 (27 + 5 * x.toNatClampNeg)
      let w4 := chillR w3 (27 + 5 * x.toNatClampNeg)
      (w4 (9 + 6 * y.toNatClampNeg + 4), w4)
    else (-5, w)
  else (-1, w) else (-1, w)
def placeMouldR (w : Nat → Int32) (x : Int32) : Int32 × (Nat → Int32) :=
  if x < 1 then (-2, w) else if x ≤ 40 then
    if w 42 < 6 then
      let w1 := upd w (48 + 6 * (w 42).toNatClampNeg) x
      let w2 := clrR w1 (44 + 6 * (w 42).toNatClampNeg)
      let w3 := upd w2 42 (w 42 + 1)
      (w 42, w3)
    else (-4, w)
  else (-2, w)
set_option maxHeartbeats 4000000 in
set_option maxRecDepth 100000 in
theorem cX4_riseOf_ok (l : Launch) (G : GT) (X : St) (n : Nat) (hp : n < 11) (f : Nat) (hf : f < 3) : MetI l G yX4_riseOf (wsG yX4_riseOf cX4_riseOf 2 (some .int)) (rmz 0 0) [.ref (ad G (65 * n + 0)), .int (nI f)] X (fun res Y => res = riseW (X.1 n) f ∧ Y = X) := by
  refine g_met (cc := cX4_riseOf) (maxL := 2) (ret := (some .int)) (by decide) rfl (Nat.le_of_ble_eq_true rfl) ?_
  intro p e s m below meth c ls C hr hlk hnm hW hl
  have hx := C.1.1
  have hb := C.1.2.1
  have hS : va_S (Ab G) s.heap s.heap [] := va_S.rf
  have hl : lv_has ls 2 [(0, .ref (ad G (65 * n + 0))), (1, .int (nI f))] := hl
  refine lv_bipush (v := 10) hx hb dX4_riseOf_0 (by decide) ?_
  refine lv_aload_n hx hb dX4_riseOf_2 rfl (lv_at hl 0 rfl) ?_
  refine gP_fires C hW hp (hwc hwX4) (mc qw_157) dX4_riseOf_3 ?_
  refine lv_iload_n hx hb dX4_riseOf_6 rfl (lv_at hl 1 rfl) ?_
  refine g_firesld C hW hp f (nI_clamp (by omega)) (vp_in_nI hf (by decide)) dX4_riseOf_7 ?_
  refine lv_imul hx hb dX4_riseOf_8 ?_
  refine lv_iconst (v := 5) hx hb dX4_riseOf_9 (by decide) ?_
  refine lv_isub hx hb dX4_riseOf_10 ?_
  exact g_iret C hr hlk hW hS dX4_riseOf_11 (by exact ⟨rfl, rfl⟩)

set_option maxHeartbeats 4000000 in
set_option maxRecDepth 100000 in
theorem cX4_willBeMolten_ok (l : Launch) (G : GT) (X : St) (n : Nat) (hp : n < 11) (f : Nat) (hf : f < 3) : MetI l G yX4_willBeMolten (wsG yX4_willBeMolten cX4_willBeMolten 2 (some .boolean)) (rmz 2 43) [.ref (ad G (65 * n + 0)), .int (nI f)] X (fun res Y => res = wbmW (X.1 n) f ∧ Y = X) := by
  refine g_met (cc := cX4_willBeMolten) (maxL := 2) (ret := (some .boolean)) (by decide) rfl (Nat.le_of_ble_eq_true rfl) ?_
  intro p e s m below meth c ls C hr hlk hnm hW hl
  have hx := C.1.1
  have hb := C.1.2.1
  have hS : va_S (Ab G) s.heap s.heap [] := va_S.rf
  have hl : lv_has ls 2 [(0, .ref (ad G (65 * n + 0))), (1, .int (nI f))] := hl
  refine lv_aload_n hx hb dX4_willBeMolten_0 rfl (lv_at hl 0 rfl) ?_
  refine gP_furnaces C hW hp (hwc hwX4) (mc qw_155) dX4_willBeMolten_1 ?_
  refine lv_iload_n hx hb dX4_willBeMolten_4 rfl (lv_at hl 1 rfl) ?_
  refine g_fur C hW hp f (nI_clamp (by omega)) (vp_in_nI hf (by decide)) dX4_willBeMolten_5 ?_
  refine g_calli (va_runV (As := []) (rest := []) C.1 (cX6_liquid_ok l G X (65 * n + (11 + 3 * f)) (65 * n + (12 + 3 * f)) (65 * n + (13 + 3 * f)) n (9 + 6 * f) 10 (ves_fur (G := G) hp hf)) (cwV 0 C.1.2.2.2.2 (gV qw_355 qw_356 qw_357 qw_74 qw_358) rfl rfl rfl (by decide +kernel) ⟨Nat.le_of_ble_eq_true rfl, Nat.le_of_ble_eq_true rfl⟩) (g_rVes C hW hS (ves_fur (G := G) hp hf) []) rfl rfl hl.1 rfl (lv_room (Nat.le_of_ble_eq_true rfl)) dX4_willBeMolten_6 ⟨Nat.zero_le _, Nat.zero_le _⟩) hS (fun r_2 Y_3 H_4 locs_5 hW_6 hS_7 h_1 => ?_)
  obtain ⟨h_1, hy_8⟩ := h_1
  replace hy_8 := hy_8.symm
  subst hy_8
  subst h_1
  refine lv_if_ne (tgt := 36) hx hb dX4_willBeMolten_9 (by decide) (fun b_9 => ?_) (fun b_9 => ?_)
  · refine lv_iconst (v := 1) hx hb dX4_willBeMolten_36 (by decide) ?_
    refine lv_goto (tgt := 41) hx hb dX4_willBeMolten_37 (by decide) ?_
    exact g_zret C hr hlk hW_6 hS_7 dX4_willBeMolten_41 rfl (by exact ⟨by simp only [wbmW, b_9, if_true, if_false], rfl⟩)
  · refine lv_aload_n hx hb dX4_willBeMolten_12 rfl (lv_at hl 0 rfl) ?_
    refine gP_furnaces C hW_6 hp (hwc hwX4) (mc qw_155) dX4_willBeMolten_13 ?_
    refine lv_iload_n hx hb dX4_willBeMolten_16 rfl (lv_at hl 1 rfl) ?_
    refine g_fur C hW_6 hp f (nI_clamp (by omega)) (vp_in_nI hf (by decide)) dX4_willBeMolten_17 ?_
    refine g_contentN C hW_6 (ves_fur (G := G) hp hf) (hwc hwX6) nw_20 dX4_willBeMolten_18 ?_
    refine g_calli (va_runV (As := []) (rest := []) C.1 (cX3_sum_ok l G X (65 * n + (12 + 3 * f)) (65 * n + (13 + 3 * f)) n (9 + 6 * f) ((ves_fur (G := G) hp hf).mix)) (cwV 0 C.1.2.2.2.2 (gV qw_337 qw_338 qw_339 qw_73 qw_340) rfl rfl rfl (by decide +kernel) ⟨Nat.le_of_ble_eq_true rfl, Nat.le_of_ble_eq_true rfl⟩) (g_rMix C hW_6 hS_7 (ves_fur (G := G) hp hf).mix []) rfl rfl hl.1 rfl (lv_room (Nat.le_of_ble_eq_true rfl)) dX4_willBeMolten_21 ⟨Nat.zero_le _, Nat.zero_le _⟩) hS_7 (fun r_11 Y_12 H_13 locs_14 hW_15 hS_16 h_10 => ?_)
    obtain ⟨h_10, hy_17⟩ := h_10
    replace hy_17 := hy_17.symm
    subst hy_17
    subst h_10
    refine lv_if_le (tgt := 40) hx hb dX4_willBeMolten_24 (by decide) (fun b_18 => ?_) (fun b_18 => ?_)
    · refine lv_iconst (v := 0) hx hb dX4_willBeMolten_40 (by decide) ?_
      exact g_zret C hr hlk hW_15 hS_16 dX4_willBeMolten_41 rfl (by exact ⟨by simp only [wbmW, b_9, b_18, if_true, if_false], rfl⟩)
    · refine lv_aload_n hx hb dX4_willBeMolten_27 rfl (lv_at hl 0 rfl) ?_
      refine gP_fires C hW_15 hp (hwc hwX4) (mc qw_157) dX4_willBeMolten_28 ?_
      refine lv_iload_n hx hb dX4_willBeMolten_31 rfl (lv_at hl 1 rfl) ?_
      refine g_firesld C hW_15 hp f (nI_clamp (by omega)) (vp_in_nI hf (by decide)) dX4_willBeMolten_32 ?_
      refine lv_if_le (tgt := 40) hx hb dX4_willBeMolten_33 (by decide) (fun b_19 => ?_) (fun b_19 => ?_)
      · refine lv_iconst (v := 0) hx hb dX4_willBeMolten_40 (by decide) ?_
        exact g_zret C hr hlk hW_15 hS_16 dX4_willBeMolten_41 rfl (by exact ⟨by simp only [wbmW, b_9, b_18, b_19, if_true, if_false], rfl⟩)
      · refine lv_iconst (v := 1) hx hb dX4_willBeMolten_36 (by decide) ?_
        refine lv_goto (tgt := 41) hx hb dX4_willBeMolten_37 (by decide) ?_
        exact g_zret C hr hlk hW_15 hS_16 dX4_willBeMolten_41 rfl (by exact ⟨by simp only [wbmW, b_9, b_18, b_19, if_true, if_false], rfl⟩)

set_option maxHeartbeats 4000000 in
set_option maxRecDepth 100000 in
theorem cX4_minutesByDivision_ok (l : Launch) (G : GT) (X : St) (n : Nat) (hp : n < 11) (f : Nat) (hf : f < 3) : MetI l G yX4_minutesByDivision (wsG yX4_minutesByDivision cX4_minutesByDivision 4 (some .int)) (rmz 1 23) [.ref (ad G (65 * n + 0)), .int (nI f)] X (fun res Y => res = mbdW (X.1 n) f ∧ Y = X) := by
  refine g_met (cc := cX4_minutesByDivision) (maxL := 4) (ret := (some .int)) (by decide) rfl (Nat.le_of_ble_eq_true rfl) ?_
  intro p e s m below meth c ls C hr hlk hnm hW hl
  have hx := C.1.1
  have hb := C.1.2.1
  have hS : va_S (Ab G) s.heap s.heap [] := va_S.rf
  have hl : lv_has ls 4 [(0, .ref (ad G (65 * n + 0))), (1, .int (nI f))] := hl
  refine lv_aload_n hx hb dX4_minutesByDivision_0 rfl (lv_at hl 0 rfl) ?_
  refine gP_furnaces C hW hp (hwc hwX4) (mc qw_155) dX4_minutesByDivision_1 ?_
  refine lv_iload_n hx hb dX4_minutesByDivision_4 rfl (lv_at hl 1 rfl) ?_
  refine g_fur C hW hp f (nI_clamp (by omega)) (vp_in_nI hf (by decide)) dX4_minutesByDivision_5 ?_
  refine g_contentN C hW (ves_fur (G := G) hp hf) (hwc hwX6) nw_20 dX4_minutesByDivision_6 ?_
  refine g_calli (va_runV (As := []) (rest := []) C.1 (cX3_pointBySums_ok l G X (65 * n + (12 + 3 * f)) (65 * n + (13 + 3 * f)) n (9 + 6 * f) ((ves_fur (G := G) hp hf).mix)) (cwV 0 C.1.2.2.2.2 (gV qw_341 qw_342 qw_343 qw_73 qw_344) rfl rfl rfl (by decide +kernel) ⟨Nat.le_of_ble_eq_true rfl, Nat.le_of_ble_eq_true rfl⟩) (g_rMix C hW hS (ves_fur (G := G) hp hf).mix []) rfl rfl hl.1 rfl (lv_room (Nat.le_of_ble_eq_true rfl)) dX4_minutesByDivision_9 ⟨Nat.zero_le _, Nat.zero_le _⟩) hS (fun r_2 Y_3 H_4 locs_5 hW_6 hS_7 h_1 => ?_)
  obtain ⟨h_1, hy_8⟩ := h_1
  replace hy_8 := hy_8.symm
  subst hy_8
  subst h_1
  refine lv_aload_n hx hb dX4_minutesByDivision_12 rfl (lv_at hl 0 rfl) ?_
  refine gP_furnaces C hW_6 hp (hwc hwX4) (mc qw_155) dX4_minutesByDivision_13 ?_
  refine lv_iload_n hx hb dX4_minutesByDivision_16 rfl (lv_at hl 1 rfl) ?_
  refine g_fur C hW_6 hp f (nI_clamp (by omega)) (vp_in_nI hf (by decide)) dX4_minutesByDivision_17 ?_
  refine g_tempN C hW_6 (ves_fur (G := G) hp hf) (hwc hwX6) nw_22 dX4_minutesByDivision_18 ?_
  refine lv_isub hx hb dX4_minutesByDivision_21 ?_
  refine lv_topi (fun v_9 ev_9 => ?_)
  refine lv_istore_n (lv' := [(2, .int v_9), (0, .ref (ad G (65 * n + 0))), (1, .int (nI f))]) hx hb dX4_minutesByDivision_22 rfl hl (by decide) rfl (fun ls_10 hl_11 => ?_)
  refine lv_aload_n hx hb dX4_minutesByDivision_23 rfl (lv_at hl_11 1 rfl) ?_
  refine lv_iload_n hx hb dX4_minutesByDivision_24 rfl (lv_at hl_11 2 rfl) ?_
  refine g_calli (va_runV (As := [.int (nI f)]) (rest := []) C.1 (cX4_riseOf_ok l G X n hp f hf) (cwV 1 C.1.2.2.2.2 (gV qw_366 qw_368 qw_0 qw_72 qw_369) rfl rfl rfl (by decide +kernel) ⟨Nat.le_of_ble_eq_true rfl, Nat.le_of_ble_eq_true rfl⟩) (g_rPlant C hW_6 hS_7 hp [.int (nI f)]) rfl rfl hl_11.1 rfl (lv_room (Nat.le_of_ble_eq_true rfl)) dX4_minutesByDivision_25 ⟨Nat.zero_le _, Nat.zero_le _⟩) hS_7 (fun r_13 Y_14 H_15 locs_16 hW_17 hS_18 h_12 => ?_)
  obtain ⟨h_12, hy_19⟩ := h_12
  replace hy_19 := hy_19.symm
  subst hy_19
  subst h_12
  refine lv_topi (fun v_20 ev_20 => ?_)
  refine lv_istore_n (lv' := [(3, .int v_20), (2, .int v_9), (0, .ref (ad G (65 * n + 0))), (1, .int (nI f))]) hx hb dX4_minutesByDivision_28 rfl hl_11 (by decide) rfl (fun ls_21 hl_22 => ?_)
  refine lv_iload_n hx hb dX4_minutesByDivision_29 rfl (lv_at hl_22 1 rfl) ?_
  refine lv_if_le (tgt := 37) hx hb dX4_minutesByDivision_30 (by decide) (fun b_23 => ?_) (fun b_23 => ?_)
  · refine lv_iconst (v := 0) hx hb dX4_minutesByDivision_37 (by decide) ?_
    exact g_iret C hr hlk hW_17 hS_18 dX4_minutesByDivision_38 (by subst ev_20; subst ev_9; exact ⟨by simp only [mbdW, b_23, if_true, if_false], rfl⟩)
  · refine lv_iload_n hx hb dX4_minutesByDivision_33 rfl (lv_at hl_22 0 rfl) ?_
    refine lv_if_gt (tgt := 39) hx hb dX4_minutesByDivision_34 (by decide) (fun b_24 => ?_) (fun b_24 => ?_)
    · refine lv_iload_n hx hb dX4_minutesByDivision_39 rfl (lv_at hl_22 1 rfl) ?_
      refine lv_iload_n hx hb dX4_minutesByDivision_40 rfl (lv_at hl_22 0 rfl) ?_
      refine lv_iadd hx hb dX4_minutesByDivision_41 ?_
      refine lv_iconst (v := 1) hx hb dX4_minutesByDivision_42 (by decide) ?_
      refine lv_isub hx hb dX4_minutesByDivision_43 ?_
      refine lv_iload_n hx hb dX4_minutesByDivision_44 rfl (lv_at hl_22 0 rfl) ?_
      refine lv_idiv hx hb dX4_minutesByDivision_45 (fun q => by rw [q] at b_24; exact absurd b_24 (by decide)) ?_
      exact g_iret C hr hlk hW_17 hS_18 dX4_minutesByDivision_46 (by subst ev_20; subst ev_9; exact ⟨by simp only [mbdW, b_23, b_24, if_true, if_false], rfl⟩)
    · refine lv_iconst (v := 0) hx hb dX4_minutesByDivision_37 (by decide) ?_
      exact g_iret C hr hlk hW_17 hS_18 dX4_minutesByDivision_38 (by subst ev_20; subst ev_9; exact ⟨by simp only [mbdW, b_23, b_24, if_true, if_false], rfl⟩)

set_option maxHeartbeats 4000000 in
set_option maxRecDepth 100000 in
theorem cX4_furnaceComesFirst_ok (l : Launch) (G : GT) (X : St) (n : Nat) (hp : n < 11) (f : Nat) (hf : f < 3) (g : Nat) (hg : g < 3) : MetI l G yX4_furnaceComesFirst (wsG yX4_furnaceComesFirst cX4_furnaceComesFirst 5 (some .boolean)) (rmz 1 22) [.ref (ad G (65 * n + 0)), .int (nI f), .int (nI g)] X (fun res Y => res = fcfW (X.1 n) f g ∧ Y = X) := by
  refine g_met (cc := cX4_furnaceComesFirst) (maxL := 5) (ret := (some .boolean)) (by decide) rfl (Nat.le_of_ble_eq_true rfl) ?_
  intro p e s m below meth c ls C hr hlk hnm hW hl
  have hx := C.1.1
  have hb := C.1.2.1
  have hS : va_S (Ab G) s.heap s.heap [] := va_S.rf
  have hl : lv_has ls 5 [(0, .ref (ad G (65 * n + 0))), (1, .int (nI f)), (2, .int (nI g))] := hl
  refine lv_aload_n hx hb dX4_furnaceComesFirst_0 rfl (lv_at hl 0 rfl) ?_
  refine gP_furnaces C hW hp (hwc hwX4) (mc qw_155) dX4_furnaceComesFirst_1 ?_
  refine lv_iload_n hx hb dX4_furnaceComesFirst_4 rfl (lv_at hl 1 rfl) ?_
  refine g_fur C hW hp f (nI_clamp (by omega)) (vp_in_nI hf (by decide)) dX4_furnaceComesFirst_5 ?_
  refine g_tempN C hW (ves_fur (G := G) hp hf) (hwc hwX6) nw_22 dX4_furnaceComesFirst_6 ?_
  refine lv_aload_n hx hb dX4_furnaceComesFirst_9 rfl (lv_at hl 0 rfl) ?_
  refine gP_furnaces C hW hp (hwc hwX4) (mc qw_155) dX4_furnaceComesFirst_10 ?_
  refine lv_iload_n hx hb dX4_furnaceComesFirst_13 rfl (lv_at hl 2 rfl) ?_
  refine g_fur C hW hp g (nI_clamp (by omega)) (vp_in_nI hg (by decide)) dX4_furnaceComesFirst_14 ?_
  refine g_tempN C hW (ves_fur (G := G) hp hg) (hwc hwX6) nw_22 dX4_furnaceComesFirst_15 ?_
  refine lv_icmp_eq (tgt := 48) hx hb dX4_furnaceComesFirst_18 (by decide) (fun b_1 => ?_) (fun b_1 => ?_)
  · refine lv_aload_n hx hb dX4_furnaceComesFirst_48 rfl (lv_at hl 0 rfl) ?_
    refine gP_furnaces C hW hp (hwc hwX4) (mc qw_155) dX4_furnaceComesFirst_49 ?_
    refine lv_iload_n hx hb dX4_furnaceComesFirst_52 rfl (lv_at hl 1 rfl) ?_
    refine g_fur C hW hp f (nI_clamp (by omega)) (vp_in_nI hf (by decide)) dX4_furnaceComesFirst_53 ?_
    refine g_contentN C hW (ves_fur (G := G) hp hf) (hwc hwX6) nw_20 dX4_furnaceComesFirst_54 ?_
    refine g_calli (va_runV (As := []) (rest := []) C.1 (cX3_sum_ok l G X (65 * n + (12 + 3 * f)) (65 * n + (13 + 3 * f)) n (9 + 6 * f) ((ves_fur (G := G) hp hf).mix)) (cwV 0 C.1.2.2.2.2 (gV qw_337 qw_338 qw_339 qw_73 qw_340) rfl rfl rfl (by decide +kernel) ⟨Nat.le_of_ble_eq_true rfl, Nat.le_of_ble_eq_true rfl⟩) (g_rMix C hW hS (ves_fur (G := G) hp hf).mix []) rfl rfl hl.1 rfl (lv_room (Nat.le_of_ble_eq_true rfl)) dX4_furnaceComesFirst_57 ⟨Nat.zero_le _, Nat.zero_le _⟩) hS (fun r_3 Y_4 H_5 locs_6 hW_7 hS_8 h_2 => ?_)
    obtain ⟨h_2, hy_9⟩ := h_2
    replace hy_9 := hy_9.symm
    subst hy_9
    subst h_2
    refine lv_topi (fun v_10 ev_10 => ?_)
    refine lv_istore_n (lv' := [(3, .int v_10), (0, .ref (ad G (65 * n + 0))), (1, .int (nI f)), (2, .int (nI g))]) hx hb dX4_furnaceComesFirst_60 rfl hl (by decide) rfl (fun ls_11 hl_12 => ?_)
    refine lv_aload_n hx hb dX4_furnaceComesFirst_61 rfl (lv_at hl_12 1 rfl) ?_
    refine gP_furnaces C hW_7 hp (hwc hwX4) (mc qw_155) dX4_furnaceComesFirst_62 ?_
    refine lv_iload_n hx hb dX4_furnaceComesFirst_65 rfl (lv_at hl_12 3 rfl) ?_
    refine g_fur C hW_7 hp g (nI_clamp (by omega)) (vp_in_nI hg (by decide)) dX4_furnaceComesFirst_66 ?_
    refine g_contentN C hW_7 (ves_fur (G := G) hp hg) (hwc hwX6) nw_20 dX4_furnaceComesFirst_67 ?_
    refine g_calli (va_runV (As := []) (rest := []) C.1 (cX3_sum_ok l G X (65 * n + (12 + 3 * g)) (65 * n + (13 + 3 * g)) n (9 + 6 * g) ((ves_fur (G := G) hp hg).mix)) (cwV 0 C.1.2.2.2.2 (gV qw_337 qw_338 qw_339 qw_73 qw_340) rfl rfl rfl (by decide +kernel) ⟨Nat.le_of_ble_eq_true rfl, Nat.le_of_ble_eq_true rfl⟩) (g_rMix C hW_7 hS_8 (ves_fur (G := G) hp hg).mix []) rfl rfl hl_12.1 rfl (lv_room (Nat.le_of_ble_eq_true rfl)) dX4_furnaceComesFirst_70 ⟨Nat.zero_le _, Nat.zero_le _⟩) hS_8 (fun r_14 Y_15 H_16 locs_17 hW_18 hS_19 h_13 => ?_)
    obtain ⟨h_13, hy_20⟩ := h_13
    replace hy_20 := hy_20.symm
    subst hy_20
    subst h_13
    refine lv_topi (fun v_21 ev_21 => ?_)
    refine lv_istore (lv' := [(4, .int v_21), (3, .int v_10), (0, .ref (ad G (65 * n + 0))), (1, .int (nI f)), (2, .int (nI g))]) hx hb dX4_furnaceComesFirst_73 hl_12 (by decide) rfl (fun ls_22 hl_23 => ?_)
    refine lv_iload_n hx hb dX4_furnaceComesFirst_75 rfl (lv_at hl_23 1 rfl) ?_
    refine lv_iload hx hb dX4_furnaceComesFirst_76 (lv_at hl_23 0 rfl) ?_
    refine lv_icmp_eq (tgt := 95) hx hb dX4_furnaceComesFirst_78 (by decide) (fun b_24 => ?_) (fun b_24 => ?_)
    · refine lv_iload_n hx hb dX4_furnaceComesFirst_95 rfl (lv_at hl_23 3 rfl) ?_
      refine lv_iload_n hx hb dX4_furnaceComesFirst_96 rfl (lv_at hl_23 4 rfl) ?_
      refine lv_icmp_ge (tgt := 104) hx hb dX4_furnaceComesFirst_97 (by decide) (fun b_25 => ?_) (fun b_25 => ?_)
      · refine lv_iconst (v := 0) hx hb dX4_furnaceComesFirst_104 (by decide) ?_
        exact g_zret C hr hlk hW_18 hS_19 dX4_furnaceComesFirst_105 rfl (by subst ev_21; subst ev_10; exact ⟨by simp only [fcfW, b_1, b_24, b_25, if_true, if_false], rfl⟩)
      · refine lv_iconst (v := 1) hx hb dX4_furnaceComesFirst_100 (by decide) ?_
        refine lv_goto (tgt := 105) hx hb dX4_furnaceComesFirst_101 (by decide) ?_
        exact g_zret C hr hlk hW_18 hS_19 dX4_furnaceComesFirst_105 rfl (by subst ev_21; subst ev_10; exact ⟨by simp only [fcfW, b_1, b_24, b_25, if_true, if_false], rfl⟩)
    · refine lv_iload_n hx hb dX4_furnaceComesFirst_81 rfl (lv_at hl_23 1 rfl) ?_
      refine lv_iload hx hb dX4_furnaceComesFirst_82 (lv_at hl_23 0 rfl) ?_
      refine lv_icmp_le (tgt := 91) hx hb dX4_furnaceComesFirst_84 (by decide) (fun b_26 => ?_) (fun b_26 => ?_)
      · refine lv_iconst (v := 0) hx hb dX4_furnaceComesFirst_91 (by decide) ?_
        refine lv_goto (tgt := 105) hx hb dX4_furnaceComesFirst_92 (by decide) ?_
        exact g_zret C hr hlk hW_18 hS_19 dX4_furnaceComesFirst_105 rfl (by subst ev_21; subst ev_10; exact ⟨by simp only [fcfW, b_1, b_24, b_26, if_true, if_false], rfl⟩)
      · refine lv_iconst (v := 1) hx hb dX4_furnaceComesFirst_87 (by decide) ?_
        refine lv_goto (tgt := 105) hx hb dX4_furnaceComesFirst_88 (by decide) ?_
        exact g_zret C hr hlk hW_18 hS_19 dX4_furnaceComesFirst_105 rfl (by subst ev_21; subst ev_10; exact ⟨by simp only [fcfW, b_1, b_24, b_26, if_true, if_false], rfl⟩)
  · refine lv_aload_n hx hb dX4_furnaceComesFirst_21 rfl (lv_at hl 0 rfl) ?_
    refine gP_furnaces C hW hp (hwc hwX4) (mc qw_155) dX4_furnaceComesFirst_22 ?_
    refine lv_iload_n hx hb dX4_furnaceComesFirst_25 rfl (lv_at hl 1 rfl) ?_
    refine g_fur C hW hp f (nI_clamp (by omega)) (vp_in_nI hf (by decide)) dX4_furnaceComesFirst_26 ?_
    refine g_tempN C hW (ves_fur (G := G) hp hf) (hwc hwX6) nw_22 dX4_furnaceComesFirst_27 ?_
    refine lv_aload_n hx hb dX4_furnaceComesFirst_30 rfl (lv_at hl 0 rfl) ?_
    refine gP_furnaces C hW hp (hwc hwX4) (mc qw_155) dX4_furnaceComesFirst_31 ?_
    refine lv_iload_n hx hb dX4_furnaceComesFirst_34 rfl (lv_at hl 2 rfl) ?_
    refine g_fur C hW hp g (nI_clamp (by omega)) (vp_in_nI hg (by decide)) dX4_furnaceComesFirst_35 ?_
    refine g_tempN C hW (ves_fur (G := G) hp hg) (hwc hwX6) nw_22 dX4_furnaceComesFirst_36 ?_
    refine lv_icmp_le (tgt := 46) hx hb dX4_furnaceComesFirst_39 (by decide) (fun b_27 => ?_) (fun b_27 => ?_)
    · refine lv_iconst (v := 0) hx hb dX4_furnaceComesFirst_46 (by decide) ?_
      exact g_zret C hr hlk hW hS dX4_furnaceComesFirst_47 rfl (by exact ⟨by simp only [fcfW, b_1, b_27, if_true, if_false], rfl⟩)
    · refine lv_iconst (v := 1) hx hb dX4_furnaceComesFirst_42 (by decide) ?_
      refine lv_goto (tgt := 47) hx hb dX4_furnaceComesFirst_43 (by decide) ?_
      exact g_zret C hr hlk hW hS dX4_furnaceComesFirst_47 rfl (by exact ⟨by simp only [fcfW, b_1, b_27, if_true, if_false], rfl⟩)

set_option maxHeartbeats 4000000 in
set_option maxRecDepth 100000 in
theorem cX4_stoke_ok (l : Launch) (G : GT) (X : St) (n : Nat) (hp : n < 11) (x y : Int32) : MetI l G yX4_stoke (wsG yX4_stoke cX4_stoke 4 (some .int)) (rmz 1 21) [.ref (ad G (65 * n + 0)), .int x, .int y] X (fun res Y => res = (stokeR (X.1 n) x y).1 ∧ Y = setRow X n (stokeR (X.1 n) x y).2) := by
  refine g_met (cc := cX4_stoke) (maxL := 4) (ret := (some .int)) (by decide) rfl (Nat.le_of_ble_eq_true rfl) ?_
  intro p e s m below meth c ls C hr hlk hnm hW hl
  have hx := C.1.1
  have hb := C.1.2.1
  have hS : va_S (Ab G) s.heap s.heap [] := va_S.rf
  have hl : lv_has ls 4 [(0, .ref (ad G (65 * n + 0))), (1, .int x), (2, .int y)] := hl
  refine lv_iload_n hx hb dX4_stoke_0 rfl (lv_at hl 1 rfl) ?_
  refine lv_iconst (v := 3) hx hb dX4_stoke_1 (by decide) ?_
  refine g_calli (va_runSN (As := [.int x, .int 3]) (rest := []) C.1 (cX7_outside_ok l G X x 3) (⟨va_cnB 2 C.1.2.2.2.2 (gN qw_827) rfl rfl rfl (C.2.2.1.1 _ nw_27) (C.1.2.2.2.2 _ (mc qw_71)) (by decide +kernel) ⟨Nat.le_of_ble_eq_true rfl, Nat.le_of_ble_eq_true rfl⟩, C.1.2.2.2.2 _ (mc qw_826), trivial⟩) (g_pre C hW hS [.int x, .int 3]) rfl rfl hl.1 rfl (lv_room (Nat.le_of_ble_eq_true rfl)) dX4_stoke_2 ⟨Nat.zero_le _, Nat.zero_le _⟩) hS (fun r_2 Y_3 H_4 locs_5 hW_6 hS_7 h_1 => ?_)
  obtain ⟨h_1, hy_8⟩ := h_1
  replace hy_8 := hy_8.symm
  subst hy_8
  subst h_1
  refine lv_if_eq (tgt := 10) hx hb dX4_stoke_5 (by decide) (fun b_9 => ?_) (fun b_9 => ?_)
  · obtain ⟨f_10, hf_10, rfl⟩ := sOut_in3 b_9
    refine lv_iload_n hx hb dX4_stoke_10 rfl (lv_at hl 2 rfl) ?_
    refine lv_if_lt (tgt := 19) hx hb dX4_stoke_11 (by decide) (fun b_11 => ?_) (fun b_11 => ?_)
    · refine lv_bipush (v := (-2)) hx hb dX4_stoke_19 (by decide) ?_
      exact g_iret C hr hlk hW_6 hS_7 dX4_stoke_21 (by exact ⟨by simp only [stokeR, clf (show f_10 < 2 ^ 31 by omega), b_9, b_11, if_true, if_false, sr_self], by simp only [stokeR, clf (show f_10 < 2 ^ 31 by omega), b_9, b_11, if_true, if_false, sr_self]⟩)
    · refine lv_iload_n hx hb dX4_stoke_14 rfl (lv_at hl 2 rfl) ?_
      refine lv_iconst (v := 5) hx hb dX4_stoke_15 (by decide) ?_
      refine lv_icmp_le (tgt := 22) hx hb dX4_stoke_16 (by decide) (fun b_12 => ?_) (fun b_12 => ?_)
      · refine lv_aload_n hx hb dX4_stoke_22 rfl (lv_at hl 0 rfl) ?_
        refine gP_fires C hW_6 hp (hwc hwX4) (mc qw_157) dX4_stoke_23 ?_
        refine lv_iload_n hx hb dX4_stoke_26 rfl (lv_at hl 1 rfl) ?_
        refine g_firesld C hW_6 hp f_10 (nI_clamp (by omega)) (vp_in_nI hf_10 (by decide)) dX4_stoke_27 ?_
        refine lv_topi (fun v_13 ev_13 => ?_)
        refine lv_istore_n (lv' := [(3, .int v_13), (0, .ref (ad G (65 * n + 0))), (1, .int (nI f_10)), (2, .int y)]) hx hb dX4_stoke_28 rfl hl (by decide) rfl (fun ls_14 hl_15 => ?_)
        refine lv_aload_n hx hb dX4_stoke_29 rfl (lv_at hl_15 1 rfl) ?_
        refine gP_fires C hW_6 hp (hwc hwX4) (mc qw_157) dX4_stoke_30 ?_
        refine lv_iload_n hx hb dX4_stoke_33 rfl (lv_at hl_15 2 rfl) ?_
        refine lv_iload_n hx hb dX4_stoke_34 rfl (lv_at hl_15 3 rfl) ?_
        refine g_firesst C hW_6 hS_7 hp f_10 (nI_clamp (by omega)) (vp_in_nI hf_10 (by decide)) dX4_stoke_35 (fun H_16 locs_17 hW_18 hS_19 => ?_)
        obtain ⟨w_20, ew_20⟩ : ∃ Z9, Z9 = upd (X.1 n) (14 + 6 * f_10) y := ⟨_, rfl⟩
        have hW_21 : Wd G (setRow X n w_20) H_16 := Wd.cast (by rw [ew_20]; exact st_base) hW_18
        refine lv_iload_n hx hb dX4_stoke_36 rfl (lv_at hl_15 0 rfl) ?_
        exact g_iret C hr hlk hW_21 hS_19 dX4_stoke_37 (by subst ev_13; exact ⟨by simp only [stokeR, clf (show f_10 < 2 ^ 31 by omega), b_9, b_11, b_12, ← ew_20, if_true, if_false, sr_self], by simp only [stokeR, clf (show f_10 < 2 ^ 31 by omega), b_9, b_11, b_12, ← ew_20, if_true, if_false, sr_self]⟩)
      · refine lv_bipush (v := (-2)) hx hb dX4_stoke_19 (by decide) ?_
        exact g_iret C hr hlk hW_6 hS_7 dX4_stoke_21 (by exact ⟨by simp only [stokeR, clf (show f_10 < 2 ^ 31 by omega), b_9, b_11, b_12, if_true, if_false, sr_self], by simp only [stokeR, clf (show f_10 < 2 ^ 31 by omega), b_9, b_11, b_12, if_true, if_false, sr_self]⟩)
  · refine lv_iconst (v := (-1)) hx hb dX4_stoke_8 (by decide) ?_
    exact g_iret C hr hlk hW_6 hS_7 dX4_stoke_9 (by exact ⟨by simp only [stokeR, b_9, if_true, if_false, sr_self], by simp only [stokeR, b_9, if_true, if_false, sr_self]⟩)

set_option maxHeartbeats 4000000 in
set_option maxRecDepth 100000 in
theorem cX4_addSolid_ok (l : Launch) (G : GT) (X : St) (n : Nat) (hp : n < 11) (x y z : Int32) : MetI l G yX4_addSolid (wsG yX4_addSolid cX4_addSolid 6 (some .int)) (rmz 2 45) [.ref (ad G (65 * n + 0)), .int x, .int y, .int z] X (fun res Y => res = (addSolidR (X.1 n) x y z).1 ∧ Y = setRow X n (addSolidR (X.1 n) x y z).2) := by
  refine g_met (cc := cX4_addSolid) (maxL := 6) (ret := (some .int)) (by decide) rfl (Nat.le_of_ble_eq_true rfl) ?_
  intro p e s m below meth c ls C hr hlk hnm hW hl
  have hx := C.1.1
  have hb := C.1.2.1
  have hS : va_S (Ab G) s.heap s.heap [] := va_S.rf
  have hl : lv_has ls 6 [(0, .ref (ad G (65 * n + 0))), (1, .int x), (2, .int y), (3, .int z)] := hl
  refine lv_iload_n hx hb dX4_addSolid_0 rfl (lv_at hl 1 rfl) ?_
  refine lv_iconst (v := 3) hx hb dX4_addSolid_1 (by decide) ?_
  refine g_calli (va_runSN (As := [.int x, .int 3]) (rest := []) C.1 (cX7_outside_ok l G X x 3) (⟨va_cnB 2 C.1.2.2.2.2 (gN qw_827) rfl rfl rfl (C.2.2.1.1 _ nw_27) (C.1.2.2.2.2 _ (mc qw_71)) (by decide +kernel) ⟨Nat.le_of_ble_eq_true rfl, Nat.le_of_ble_eq_true rfl⟩, C.1.2.2.2.2 _ (mc qw_826), trivial⟩) (g_pre C hW hS [.int x, .int 3]) rfl rfl hl.1 rfl (lv_room (Nat.le_of_ble_eq_true rfl)) dX4_addSolid_2 ⟨Nat.zero_le _, Nat.zero_le _⟩) hS (fun r_2 Y_3 H_4 locs_5 hW_6 hS_7 h_1 => ?_)
  obtain ⟨h_1, hy_8⟩ := h_1
  replace hy_8 := hy_8.symm
  subst hy_8
  subst h_1
  refine lv_if_eq (tgt := 10) hx hb dX4_addSolid_5 (by decide) (fun b_9 => ?_) (fun b_9 => ?_)
  · obtain ⟨f_10, hf_10, rfl⟩ := sOut_in3 b_9
    refine lv_iload_n hx hb dX4_addSolid_10 rfl (lv_at hl 2 rfl) ?_
    refine g_calli (va_runSN (As := [.int y]) (rest := []) C.1 (cX7_materialOf_ok l G X y) (⟨va_cnB 1 C.1.2.2.2.2 (gN qw_830) rfl rfl rfl (C.2.2.1.1 _ nw_28) (C.1.2.2.2.2 _ (mc qw_71)) (by decide +kernel) ⟨Nat.le_of_ble_eq_true rfl, Nat.le_of_ble_eq_true rfl⟩, C.1.2.2.2.2 _ (mc qw_829), trivial⟩) (g_pre C hW_6 hS_7 [.int y]) rfl rfl hl.1 rfl (lv_room (Nat.le_of_ble_eq_true rfl)) dX4_addSolid_11 ⟨Nat.zero_le _, Nat.zero_le _⟩) hS_7 (fun r_12 Y_13 H_14 locs_15 hW_16 hS_17 h_11 => ?_)
    obtain ⟨h_11, hy_18⟩ := h_11
    replace hy_18 := hy_18.symm
    subst hy_18
    subst h_11
    refine lv_topi (fun v_19 ev_19 => ?_)
    refine lv_istore (lv' := [(4, .int v_19), (0, .ref (ad G (65 * n + 0))), (1, .int (nI f_10)), (2, .int y), (3, .int z)]) hx hb dX4_addSolid_14 hl (by decide) rfl (fun ls_20 hl_21 => ?_)
    refine lv_iload hx hb dX4_addSolid_16 (lv_at hl_21 0 rfl) ?_
    refine lv_iconst (v := (-1)) hx hb dX4_addSolid_18 (by decide) ?_
    refine lv_icmp_eq (tgt := 33) hx hb dX4_addSolid_19 (by decide) (fun b_22 => ?_) (fun b_22 => ?_)
    · refine lv_bipush (v := (-2)) hx hb dX4_addSolid_33 (by decide) ?_
      exact g_iret C hr hlk hW_16 hS_17 dX4_addSolid_35 (by subst ev_19; exact ⟨by simp only [addSolidR, clf (show f_10 < 2 ^ 31 by omega), b_9, b_22, if_true, if_false, sr_self], by simp only [addSolidR, clf (show f_10 < 2 ^ 31 by omega), b_9, b_22, if_true, if_false, sr_self]⟩)
    · obtain ⟨j_23, hj_23, rfl⟩ := matOf_in ev_19 b_22
      refine lv_iload_n hx hb dX4_addSolid_22 rfl (lv_at hl_21 4 rfl) ?_
      refine lv_iconst (v := 1) hx hb dX4_addSolid_23 (by decide) ?_
      refine lv_icmp_lt (tgt := 33) hx hb dX4_addSolid_24 (by decide) (fun b_24 => ?_) (fun b_24 => ?_)
      · refine lv_bipush (v := (-2)) hx hb dX4_addSolid_33 (by decide) ?_
        exact g_iret C hr hlk hW_16 hS_17 dX4_addSolid_35 (by exact ⟨by simp only [addSolidR, clf (show f_10 < 2 ^ 31 by omega), ← ev_19, clf (show j_23 < 2 ^ 31 by omega), b_9, b_22, b_24, if_true, if_false, sr_self], by simp only [addSolidR, clf (show f_10 < 2 ^ 31 by omega), ← ev_19, clf (show j_23 < 2 ^ 31 by omega), b_9, b_22, b_24, if_true, if_false, sr_self]⟩)
      · refine lv_iload_n hx hb dX4_addSolid_27 rfl (lv_at hl_21 4 rfl) ?_
        refine lv_bipush (v := 50) hx hb dX4_addSolid_28 (by decide) ?_
        refine lv_icmp_le (tgt := 36) hx hb dX4_addSolid_30 (by decide) (fun b_25 => ?_) (fun b_25 => ?_)
        · refine lv_aload_n hx hb dX4_addSolid_36 rfl (lv_at hl_21 1 rfl) ?_
          refine gP_furnaces C hW_16 hp (hwc hwX4) (mc qw_155) dX4_addSolid_37 ?_
          refine lv_iload_n hx hb dX4_addSolid_40 rfl (lv_at hl_21 2 rfl) ?_
          refine g_fur C hW_16 hp f_10 (nI_clamp (by omega)) (vp_in_nI hf_10 (by decide)) dX4_addSolid_41 ?_
          refine lv_astore (lv' := [(5, .ref (ad G (65 * n + (11 + 3 * f_10)))), (4, .int (nI j_23)), (0, .ref (ad G (65 * n + 0))), (1, .int (nI f_10)), (2, .int y), (3, .int z)]) hx hb dX4_addSolid_42 hl_21 (by decide) rfl (fun ls_26 hl_27 => ?_)
          refine lv_aload hx hb dX4_addSolid_44 (lv_at hl_27 0 rfl) ?_
          refine g_contentN C hW_16 (ves_fur (G := G) hp hf_10) (hwc hwX6) nw_20 dX4_addSolid_46 ?_
          refine g_calli (va_runV (As := []) (rest := []) C.1 (cX3_sum_ok l G X (65 * n + (12 + 3 * f_10)) (65 * n + (13 + 3 * f_10)) n (9 + 6 * f_10) ((ves_fur (G := G) hp hf_10).mix)) (cwV 0 C.1.2.2.2.2 (gV qw_337 qw_338 qw_339 qw_73 qw_340) rfl rfl rfl (by decide +kernel) ⟨Nat.le_of_ble_eq_true rfl, Nat.le_of_ble_eq_true rfl⟩) (g_rMix C hW_16 hS_17 (ves_fur (G := G) hp hf_10).mix []) rfl rfl hl_27.1 rfl (lv_room (Nat.le_of_ble_eq_true rfl)) dX4_addSolid_49 ⟨Nat.zero_le _, Nat.zero_le _⟩) hS_17 (fun r_29 Y_30 H_31 locs_32 hW_33 hS_34 h_28 => ?_)
          obtain ⟨h_28, hy_35⟩ := h_28
          replace hy_35 := hy_35.symm
          subst hy_35
          subst h_28
          refine lv_iload_n hx hb dX4_addSolid_52 rfl (lv_at hl_27 5 rfl) ?_
          refine lv_iadd hx hb dX4_addSolid_53 ?_
          refine lv_bipush (v := 100) hx hb dX4_addSolid_54 (by decide) ?_
          refine lv_icmp_le (tgt := 62) hx hb dX4_addSolid_56 (by decide) (fun b_36 => ?_) (fun b_36 => ?_)
          · refine lv_aload hx hb dX4_addSolid_62 (lv_at hl_27 0 rfl) ?_
            refine lv_iload_n hx hb dX4_addSolid_64 rfl (lv_at hl_27 5 rfl) ?_
            refine lv_bipush (v := 20) hx hb dX4_addSolid_65 (by decide) ?_
            refine g_callv (va_runV (As := [.int z, .int 20]) (rest := []) C.1 (cX6_blend_ok l G X (65 * n + (11 + 3 * f_10)) (65 * n + (12 + 3 * f_10)) (65 * n + (13 + 3 * f_10)) n (9 + 6 * f_10) 10 (ves_fur (G := G) hp hf_10) z 20) (cwV 2 C.1.2.2.2.2 (gV qw_833 qw_834 qw_835 qw_74 qw_836) rfl rfl rfl (by decide +kernel) ⟨Nat.le_of_ble_eq_true rfl, Nat.le_of_ble_eq_true rfl⟩) (g_rVes C hW_33 hS_34 (ves_fur (G := G) hp hf_10) [.int z, .int 20]) rfl rfl hl_27.1 rfl (lv_room (Nat.le_of_ble_eq_true rfl)) dX4_addSolid_67 ⟨Nat.zero_le _, Nat.zero_le _⟩) hS_34 (fun Y_38 H_39 locs_40 hW_41 hS_42 h_37 => ?_)
            obtain ⟨w_43, ew_43⟩ : ∃ Z9, Z9 = blendR (X.1 n) (9 + 6 * f_10) 10 z 20 := ⟨_, rfl⟩
            have hW_44 : Wd G (setRow X n w_43) H_39 := Wd.cast (by rw [h_37, ew_43]) hW_41
            refine lv_aload hx hb dX4_addSolid_70 (lv_at hl_27 0 rfl) ?_
            refine g_contentN C hW_44 (ves_fur (G := G) hp hf_10) (hwc hwX6) nw_20 dX4_addSolid_72 ?_
            refine g_massesN C hW_44 (ves_fur (G := G) hp hf_10).mix (hwc hwX3) nw_21 dX4_addSolid_75 ?_
            refine lv_iload hx hb dX4_addSolid_78 (lv_at hl_27 1 rfl) ?_
            refine lv_dup2_11 hx hb dX4_addSolid_80 rfl rfl ?_
            refine g_mld C hW_44 (ves_fur (G := G) hp hf_10).mix j_23 (nI_clamp (by omega)) (vp_in_nI hj_23 (by decide)) dX4_addSolid_81 ?_
            refine g_top (y := w_43 (9 + 6 * f_10 + j_23)) (congrFun rd_out _) ?_
            refine lv_iload_n hx hb dX4_addSolid_82 rfl (lv_at hl_27 5 rfl) ?_
            refine lv_iadd hx hb dX4_addSolid_83 ?_
            refine g_mst C hW_44 hS_42 (ves_fur (G := G) hp hf_10).mix j_23 (nI_clamp (by omega)) (vp_in_nI hj_23 (by decide)) dX4_addSolid_84 (fun H_45 locs_46 hW_47 hS_48 => ?_)
            obtain ⟨w_49, ew_49⟩ : ∃ Z9, Z9 = upd w_43 (9 + 6 * f_10 + j_23) ((w_43 (9 + 6 * f_10 + j_23)) + z) := ⟨_, rfl⟩
            have hW_50 : Wd G (setRow X n w_49) H_45 := Wd.cast (by rw [ew_49]; exact st_out) hW_47
            refine lv_aload_n hx hb dX4_addSolid_85 rfl (lv_at hl_27 2 rfl) ?_
            refine gP_chargedSoFar C hW_50 hp (hwc hwX4) (mc qw_171) dX4_addSolid_86 ?_
            refine g_massesN C hW_50 (mix_chg hp) (hwc hwX3) nw_21 dX4_addSolid_89 ?_
            refine lv_iload hx hb dX4_addSolid_92 (lv_at hl_27 1 rfl) ?_
            refine lv_dup2_11 hx hb dX4_addSolid_94 rfl rfl ?_
            refine g_mld C hW_50 (mix_chg hp) j_23 (nI_clamp (by omega)) (vp_in_nI hj_23 (by decide)) dX4_addSolid_95 ?_
            refine g_top (y := w_49 (1 + j_23)) (congrFun rd_out _) ?_
            refine lv_iload_n hx hb dX4_addSolid_96 rfl (lv_at hl_27 5 rfl) ?_
            refine lv_iadd hx hb dX4_addSolid_97 ?_
            refine g_mst C hW_50 hS_48 (mix_chg hp) j_23 (nI_clamp (by omega)) (vp_in_nI hj_23 (by decide)) dX4_addSolid_98 (fun H_51 locs_52 hW_53 hS_54 => ?_)
            obtain ⟨w_55, ew_55⟩ : ∃ Z9, Z9 = upd w_49 (1 + j_23) ((w_49 (1 + j_23)) + z) := ⟨_, rfl⟩
            have hW_56 : Wd G (setRow X n w_55) H_51 := Wd.cast (by rw [ew_55]; exact st_out) hW_53
            refine lv_aload hx hb dX4_addSolid_99 (lv_at hl_27 0 rfl) ?_
            refine g_tempN C hW_56 (ves_fur (G := G) hp hf_10) (hwc hwX6) nw_22 dX4_addSolid_101 ?_
            refine g_top (y := w_55 (9 + 6 * f_10 + 4)) (congrFun rd_out _) ?_
            exact g_iret C hr hlk hW_56 hS_54 dX4_addSolid_104 (by exact ⟨by simp only [addSolidR, clf (show f_10 < 2 ^ 31 by omega), ← ev_19, clf (show j_23 < 2 ^ 31 by omega), b_9, b_22, b_24, b_25, b_36, ← ew_43, ← ew_49, ← ew_55, if_true, if_false, sr_self], by simp only [addSolidR, clf (show f_10 < 2 ^ 31 by omega), ← ev_19, clf (show j_23 < 2 ^ 31 by omega), b_9, b_22, b_24, b_25, b_36, ← ew_43, ← ew_49, ← ew_55, if_true, if_false, sr_self]⟩)
          · refine lv_bipush (v := (-5)) hx hb dX4_addSolid_59 (by decide) ?_
            exact g_iret C hr hlk hW_33 hS_34 dX4_addSolid_61 (by exact ⟨by simp only [addSolidR, clf (show f_10 < 2 ^ 31 by omega), ← ev_19, clf (show j_23 < 2 ^ 31 by omega), b_9, b_22, b_24, b_25, b_36, if_true, if_false, sr_self], by simp only [addSolidR, clf (show f_10 < 2 ^ 31 by omega), ← ev_19, clf (show j_23 < 2 ^ 31 by omega), b_9, b_22, b_24, b_25, b_36, if_true, if_false, sr_self]⟩)
        · refine lv_bipush (v := (-2)) hx hb dX4_addSolid_33 (by decide) ?_
          exact g_iret C hr hlk hW_16 hS_17 dX4_addSolid_35 (by exact ⟨by simp only [addSolidR, clf (show f_10 < 2 ^ 31 by omega), ← ev_19, clf (show j_23 < 2 ^ 31 by omega), b_9, b_22, b_24, b_25, if_true, if_false, sr_self], by simp only [addSolidR, clf (show f_10 < 2 ^ 31 by omega), ← ev_19, clf (show j_23 < 2 ^ 31 by omega), b_9, b_22, b_24, b_25, if_true, if_false, sr_self]⟩)
  · refine lv_iconst (v := (-1)) hx hb dX4_addSolid_8 (by decide) ?_
    exact g_iret C hr hlk hW_6 hS_7 dX4_addSolid_9 (by exact ⟨by simp only [addSolidR, b_9, if_true, if_false, sr_self], by simp only [addSolidR, b_9, if_true, if_false, sr_self]⟩)

set_option maxHeartbeats 4000000 in
set_option maxRecDepth 100000 in
theorem cX4_giveBack_ok (l : Launch) (G : GT) (X : St) (n : Nat) (hp : n < 11) (x y : Int32) : MetI l G yX4_giveBack (wsG yX4_giveBack cX4_giveBack 6 (some .int)) (rmz 2 45) [.ref (ad G (65 * n + 0)), .int x, .int y] X (fun res Y => res = (giveBackR (X.1 n) x y).1 ∧ Y = setRow X n (giveBackR (X.1 n) x y).2) := by
  refine g_met (cc := cX4_giveBack) (maxL := 6) (ret := (some .int)) (by decide) rfl (Nat.le_of_ble_eq_true rfl) ?_
  intro p e s m below meth c ls C hr hlk hnm hW hl
  have hx := C.1.1
  have hb := C.1.2.1
  have hS : va_S (Ab G) s.heap s.heap [] := va_S.rf
  have hl : lv_has ls 6 [(0, .ref (ad G (65 * n + 0))), (1, .int x), (2, .int y)] := hl
  refine lv_iload_n hx hb dX4_giveBack_0 rfl (lv_at hl 1 rfl) ?_
  refine lv_iconst (v := 3) hx hb dX4_giveBack_1 (by decide) ?_
  refine g_calli (va_runSN (As := [.int x, .int 3]) (rest := []) C.1 (cX7_outside_ok l G X x 3) (⟨va_cnB 2 C.1.2.2.2.2 (gN qw_827) rfl rfl rfl (C.2.2.1.1 _ nw_27) (C.1.2.2.2.2 _ (mc qw_71)) (by decide +kernel) ⟨Nat.le_of_ble_eq_true rfl, Nat.le_of_ble_eq_true rfl⟩, C.1.2.2.2.2 _ (mc qw_826), trivial⟩) (g_pre C hW hS [.int x, .int 3]) rfl rfl hl.1 rfl (lv_room (Nat.le_of_ble_eq_true rfl)) dX4_giveBack_2 ⟨Nat.zero_le _, Nat.zero_le _⟩) hS (fun r_2 Y_3 H_4 locs_5 hW_6 hS_7 h_1 => ?_)
  obtain ⟨h_1, hy_8⟩ := h_1
  replace hy_8 := hy_8.symm
  subst hy_8
  subst h_1
  refine lv_if_ne (tgt := 16) hx hb dX4_giveBack_5 (by decide) (fun b_9 => ?_) (fun b_9 => ?_)
  · refine lv_iconst (v := (-1)) hx hb dX4_giveBack_16 (by decide) ?_
    exact g_iret C hr hlk hW_6 hS_7 dX4_giveBack_17 (by exact ⟨by simp only [giveBackR, b_9, if_true, if_false, sr_self], by simp only [giveBackR, b_9, if_true, if_false, sr_self]⟩)
  · obtain ⟨f_10, hf_10, rfl⟩ := sOut_in3 b_9
    refine lv_iload_n hx hb dX4_giveBack_8 rfl (lv_at hl 2 rfl) ?_
    refine lv_iconst (v := 3) hx hb dX4_giveBack_9 (by decide) ?_
    refine g_calli (va_runSN (As := [.int y, .int 3]) (rest := []) C.1 (cX7_outside_ok l G X y 3) (⟨va_cnB 2 C.1.2.2.2.2 (gN qw_827) rfl rfl rfl (C.2.2.1.1 _ nw_27) (C.1.2.2.2.2 _ (mc qw_71)) (by decide +kernel) ⟨Nat.le_of_ble_eq_true rfl, Nat.le_of_ble_eq_true rfl⟩, C.1.2.2.2.2 _ (mc qw_826), trivial⟩) (g_pre C hW_6 hS_7 [.int y, .int 3]) rfl rfl hl.1 rfl (lv_room (Nat.le_of_ble_eq_true rfl)) dX4_giveBack_10 ⟨Nat.zero_le _, Nat.zero_le _⟩) hS_7 (fun r_12 Y_13 H_14 locs_15 hW_16 hS_17 h_11 => ?_)
    obtain ⟨h_11, hy_18⟩ := h_11
    replace hy_18 := hy_18.symm
    subst hy_18
    subst h_11
    refine lv_if_eq (tgt := 18) hx hb dX4_giveBack_13 (by decide) (fun b_19 => ?_) (fun b_19 => ?_)
    · obtain ⟨f_20, hf_20, rfl⟩ := sOut_in3 b_19
      refine lv_aload_n hx hb dX4_giveBack_18 rfl (lv_at hl 0 rfl) ?_
      refine gP_ladles C hW_16 hp (hwc hwX4) (mc qw_159) dX4_giveBack_19 ?_
      refine lv_iload_n hx hb dX4_giveBack_22 rfl (lv_at hl 1 rfl) ?_
      refine g_lad C hW_16 hp f_10 (nI_clamp (by omega)) (vp_in_nI hf_10 (by decide)) dX4_giveBack_23 ?_
      refine lv_astore_n (lv' := [(3, .ref (ad G (65 * n + (20 + 3 * f_10)))), (0, .ref (ad G (65 * n + 0))), (1, .int (nI f_10)), (2, .int (nI f_20))]) hx hb dX4_giveBack_24 rfl hl (by decide) rfl (fun ls_21 hl_22 => ?_)
      refine lv_aload_n hx hb dX4_giveBack_25 rfl (lv_at hl_22 0 rfl) ?_
      refine g_contentN C hW_16 (ves_lad (G := G) hp hf_10) (hwc hwX6) nw_20 dX4_giveBack_26 ?_
      refine g_calli (va_runV (As := []) (rest := []) C.1 (cX3_sum_ok l G X (65 * n + (21 + 3 * f_10)) (65 * n + (22 + 3 * f_10)) n (27 + 5 * f_10) ((ves_lad (G := G) hp hf_10).mix)) (cwV 0 C.1.2.2.2.2 (gV qw_337 qw_338 qw_339 qw_73 qw_340) rfl rfl rfl (by decide +kernel) ⟨Nat.le_of_ble_eq_true rfl, Nat.le_of_ble_eq_true rfl⟩) (g_rMix C hW_16 hS_17 (ves_lad (G := G) hp hf_10).mix []) rfl rfl hl_22.1 rfl (lv_room (Nat.le_of_ble_eq_true rfl)) dX4_giveBack_29 ⟨Nat.zero_le _, Nat.zero_le _⟩) hS_17 (fun r_24 Y_25 H_26 locs_27 hW_28 hS_29 h_23 => ?_)
      obtain ⟨h_23, hy_30⟩ := h_23
      replace hy_30 := hy_30.symm
      subst hy_30
      subst h_23
      refine lv_topi (fun v_31 ev_31 => ?_)
      refine lv_istore (lv' := [(4, .int v_31), (3, .ref (ad G (65 * n + (20 + 3 * f_10)))), (0, .ref (ad G (65 * n + 0))), (1, .int (nI f_10)), (2, .int (nI f_20))]) hx hb dX4_giveBack_32 hl_22 (by decide) rfl (fun ls_32 hl_33 => ?_)
      refine lv_iload hx hb dX4_giveBack_34 (lv_at hl_33 0 rfl) ?_
      refine lv_if_ne (tgt := 42) hx hb dX4_giveBack_36 (by decide) (fun b_34 => ?_) (fun b_34 => ?_)
      · refine lv_aload_n hx hb dX4_giveBack_42 rfl (lv_at hl_33 2 rfl) ?_
        refine gP_furnaces C hW_28 hp (hwc hwX4) (mc qw_155) dX4_giveBack_43 ?_
        refine lv_iload_n hx hb dX4_giveBack_46 rfl (lv_at hl_33 4 rfl) ?_
        refine g_fur C hW_28 hp f_20 (nI_clamp (by omega)) (vp_in_nI hf_20 (by decide)) dX4_giveBack_47 ?_
        refine lv_astore (lv' := [(5, .ref (ad G (65 * n + (11 + 3 * f_20)))), (4, .int v_31), (3, .ref (ad G (65 * n + (20 + 3 * f_10)))), (0, .ref (ad G (65 * n + 0))), (1, .int (nI f_10)), (2, .int (nI f_20))]) hx hb dX4_giveBack_48 hl_33 (by decide) rfl (fun ls_35 hl_36 => ?_)
        refine lv_aload hx hb dX4_giveBack_50 (lv_at hl_36 0 rfl) ?_
        refine g_contentN C hW_28 (ves_fur (G := G) hp hf_20) (hwc hwX6) nw_20 dX4_giveBack_52 ?_
        refine g_calli (va_runV (As := []) (rest := []) C.1 (cX3_sum_ok l G X (65 * n + (12 + 3 * f_20)) (65 * n + (13 + 3 * f_20)) n (9 + 6 * f_20) ((ves_fur (G := G) hp hf_20).mix)) (cwV 0 C.1.2.2.2.2 (gV qw_337 qw_338 qw_339 qw_73 qw_340) rfl rfl rfl (by decide +kernel) ⟨Nat.le_of_ble_eq_true rfl, Nat.le_of_ble_eq_true rfl⟩) (g_rMix C hW_28 hS_29 (ves_fur (G := G) hp hf_20).mix []) rfl rfl hl_36.1 rfl (lv_room (Nat.le_of_ble_eq_true rfl)) dX4_giveBack_55 ⟨Nat.zero_le _, Nat.zero_le _⟩) hS_29 (fun r_38 Y_39 H_40 locs_41 hW_42 hS_43 h_37 => ?_)
        obtain ⟨h_37, hy_44⟩ := h_37
        replace hy_44 := hy_44.symm
        subst hy_44
        subst h_37
        refine lv_iload hx hb dX4_giveBack_58 (lv_at hl_36 1 rfl) ?_
        refine lv_iadd hx hb dX4_giveBack_60 ?_
        refine lv_bipush (v := 100) hx hb dX4_giveBack_61 (by decide) ?_
        refine lv_icmp_le (tgt := 69) hx hb dX4_giveBack_63 (by decide) (fun b_45 => ?_) (fun b_45 => ?_)
        · refine lv_aload hx hb dX4_giveBack_69 (lv_at hl_36 0 rfl) ?_
          refine lv_iload hx hb dX4_giveBack_71 (lv_at hl_36 1 rfl) ?_
          refine lv_aload_n hx hb dX4_giveBack_73 rfl (lv_at hl_36 2 rfl) ?_
          refine g_tempN C hW_42 (ves_lad (G := G) hp hf_10) (hwc hwX6) nw_22 dX4_giveBack_74 ?_
          refine g_callv (va_runV (As := [.int v_31, .int (X.1 n (27 + 5 * f_10 + 4))]) (rest := []) C.1 (cX6_blend_ok l G X (65 * n + (11 + 3 * f_20)) (65 * n + (12 + 3 * f_20)) (65 * n + (13 + 3 * f_20)) n (9 + 6 * f_20) 10 (ves_fur (G := G) hp hf_20) v_31 (X.1 n (27 + 5 * f_10 + 4))) (cwV 2 C.1.2.2.2.2 (gV qw_833 qw_834 qw_835 qw_74 qw_836) rfl rfl rfl (by decide +kernel) ⟨Nat.le_of_ble_eq_true rfl, Nat.le_of_ble_eq_true rfl⟩) (g_rVes C hW_42 hS_43 (ves_fur (G := G) hp hf_20) [.int v_31, .int (X.1 n (27 + 5 * f_10 + 4))]) rfl rfl hl_36.1 rfl (lv_room (Nat.le_of_ble_eq_true rfl)) dX4_giveBack_77 ⟨Nat.zero_le _, Nat.zero_le _⟩) hS_43 (fun Y_47 H_48 locs_49 hW_50 hS_51 h_46 => ?_)
          obtain ⟨w_52, ew_52⟩ : ∃ Z9, Z9 = blendR (X.1 n) (9 + 6 * f_20) 10 v_31 (X.1 n (27 + 5 * f_10 + 4)) := ⟨_, rfl⟩
          have hW_53 : Wd G (setRow X n w_52) H_48 := Wd.cast (by rw [h_46, ew_52]) hW_50
          refine lv_aload hx hb dX4_giveBack_80 (lv_at hl_36 0 rfl) ?_
          refine g_contentN C hW_53 (ves_fur (G := G) hp hf_20) (hwc hwX6) nw_20 dX4_giveBack_82 ?_
          refine lv_aload_n hx hb dX4_giveBack_85 rfl (lv_at hl_36 2 rfl) ?_
          refine g_contentN C hW_53 (ves_lad (G := G) hp hf_10) (hwc hwX6) nw_20 dX4_giveBack_86 ?_
          refine g_callv (va_runV (As := [.ref (ad G (65 * n + (21 + 3 * f_10)))]) (rest := []) C.1 (cX3_addAll_ok l G (setRow X n w_52) (65 * n + (12 + 3 * f_20)) (65 * n + (13 + 3 * f_20)) n (9 + 6 * f_20) ((ves_fur (G := G) hp hf_20).mix) (65 * n + (21 + 3 * f_10)) (65 * n + (22 + 3 * f_10)) (27 + 5 * f_10) ((ves_lad (G := G) hp hf_10).mix)) (cwV 1 C.1.2.2.2.2 (gV qw_868 qw_869 qw_870 qw_73 qw_871) rfl rfl rfl (by decide +kernel) ⟨Nat.le_of_ble_eq_true rfl, Nat.le_of_ble_eq_true rfl⟩) (g_rMix C hW_53 hS_51 (ves_fur (G := G) hp hf_20).mix [.ref (ad G (65 * n + (21 + 3 * f_10)))]) rfl rfl hl_36.1 rfl (lv_room (Nat.le_of_ble_eq_true rfl)) dX4_giveBack_89 ⟨Nat.zero_le _, Nat.zero_le _⟩) hS_51 (fun Y_55 H_56 locs_57 hW_58 hS_59 h_54 => ?_)
          obtain ⟨w_60, ew_60⟩ : ∃ Z9, Z9 = addAllR w_52 (9 + 6 * f_20) (27 + 5 * f_10) := ⟨_, rfl⟩
          have hW_61 : Wd G (setRow X n w_60) H_56 := Wd.cast (by rw [h_54, ew_60]; exact ((congrArg (fun Z9 => setRow (setRow X n w_52) n (addAllR Z9 (9 + 6 * f_20) (27 + 5 * f_10))) rd_out).trans sr_out)) hW_58
          refine lv_aload_n hx hb dX4_giveBack_92 rfl (lv_at hl_36 2 rfl) ?_
          refine g_contentN C hW_61 (ves_lad (G := G) hp hf_10) (hwc hwX6) nw_20 dX4_giveBack_93 ?_
          refine g_callv (va_runV (As := []) (rest := []) C.1 (cX3_clear_ok l G (setRow X n w_60) (65 * n + (21 + 3 * f_10)) (65 * n + (22 + 3 * f_10)) n (27 + 5 * f_10) ((ves_lad (G := G) hp hf_10).mix)) (cwV 0 C.1.2.2.2.2 (gV qw_872 qw_873 qw_874 qw_73 qw_875) rfl rfl rfl (by decide +kernel) ⟨Nat.le_of_ble_eq_true rfl, Nat.le_of_ble_eq_true rfl⟩) (g_rMix C hW_61 hS_59 (ves_lad (G := G) hp hf_10).mix []) rfl rfl hl_36.1 rfl (lv_room (Nat.le_of_ble_eq_true rfl)) dX4_giveBack_96 ⟨Nat.zero_le _, Nat.zero_le _⟩) hS_59 (fun Y_63 H_64 locs_65 hW_66 hS_67 h_62 => ?_)
          obtain ⟨w_68, ew_68⟩ : ∃ Z9, Z9 = clrR w_60 (27 + 5 * f_10) := ⟨_, rfl⟩
          have hW_69 : Wd G (setRow X n w_68) H_64 := Wd.cast (by rw [h_62, ew_68]; exact ((congrArg (fun Z9 => setRow (setRow X n w_60) n (clrR Z9 (27 + 5 * f_10))) rd_out).trans sr_out)) hW_66
          refine lv_aload_n hx hb dX4_giveBack_99 rfl (lv_at hl_36 2 rfl) ?_
          refine g_callv (va_runV (As := []) (rest := []) C.1 (cX6_chillIfEmpty_ok l G (setRow X n w_68) (65 * n + (20 + 3 * f_10)) (65 * n + (21 + 3 * f_10)) (65 * n + (22 + 3 * f_10)) n (27 + 5 * f_10) 0 (ves_lad (G := G) hp hf_10)) (cwV 0 C.1.2.2.2.2 (gV qw_876 qw_877 qw_878 qw_74 qw_879) rfl rfl rfl (by decide +kernel) ⟨Nat.le_of_ble_eq_true rfl, Nat.le_of_ble_eq_true rfl⟩) (g_rVes C hW_69 hS_67 (ves_lad (G := G) hp hf_10) []) rfl rfl hl_36.1 rfl (lv_room (Nat.le_of_ble_eq_true rfl)) dX4_giveBack_100 ⟨Nat.zero_le _, Nat.zero_le _⟩) hS_67 (fun Y_71 H_72 locs_73 hW_74 hS_75 h_70 => ?_)
          obtain ⟨w_76, ew_76⟩ : ∃ Z9, Z9 = chillR w_68 (27 + 5 * f_10) := ⟨_, rfl⟩
          have hW_77 : Wd G (setRow X n w_76) H_72 := Wd.cast (by rw [h_70, ew_76]; exact ((congrArg (fun Z9 => setRow (setRow X n w_68) n (chillR Z9 (27 + 5 * f_10))) rd_out).trans sr_out)) hW_74
          refine lv_aload hx hb dX4_giveBack_103 (lv_at hl_36 0 rfl) ?_
          refine g_tempN C hW_77 (ves_fur (G := G) hp hf_20) (hwc hwX6) nw_22 dX4_giveBack_105 ?_
          refine g_top (y := w_76 (9 + 6 * f_20 + 4)) (congrFun rd_out _) ?_
          exact g_iret C hr hlk hW_77 hS_75 dX4_giveBack_108 (by subst ev_31; exact ⟨by simp only [giveBackR, clf (show f_10 < 2 ^ 31 by omega), clf (show f_20 < 2 ^ 31 by omega), b_9, b_19, b_34, b_45, ← ew_52, ← ew_60, ← ew_68, ← ew_76, if_true, if_false, sr_self], by simp only [giveBackR, clf (show f_10 < 2 ^ 31 by omega), clf (show f_20 < 2 ^ 31 by omega), b_9, b_19, b_34, b_45, ← ew_52, ← ew_60, ← ew_68, ← ew_76, if_true, if_false, sr_self]⟩)
        · refine lv_bipush (v := (-5)) hx hb dX4_giveBack_66 (by decide) ?_
          exact g_iret C hr hlk hW_42 hS_43 dX4_giveBack_68 (by subst ev_31; exact ⟨by simp only [giveBackR, clf (show f_10 < 2 ^ 31 by omega), clf (show f_20 < 2 ^ 31 by omega), b_9, b_19, b_34, b_45, if_true, if_false, sr_self], by simp only [giveBackR, clf (show f_10 < 2 ^ 31 by omega), clf (show f_20 < 2 ^ 31 by omega), b_9, b_19, b_34, b_45, if_true, if_false, sr_self]⟩)
      · refine lv_bipush (v := (-3)) hx hb dX4_giveBack_39 (by decide) ?_
        exact g_iret C hr hlk hW_28 hS_29 dX4_giveBack_41 (by subst ev_31; exact ⟨by simp only [giveBackR, clf (show f_10 < 2 ^ 31 by omega), clf (show f_20 < 2 ^ 31 by omega), b_9, b_19, b_34, if_true, if_false, sr_self], by simp only [giveBackR, clf (show f_10 < 2 ^ 31 by omega), clf (show f_20 < 2 ^ 31 by omega), b_9, b_19, b_34, if_true, if_false, sr_self]⟩)
    · refine lv_iconst (v := (-1)) hx hb dX4_giveBack_16 (by decide) ?_
      exact g_iret C hr hlk hW_16 hS_17 dX4_giveBack_17 (by exact ⟨by simp only [giveBackR, clf (show f_10 < 2 ^ 31 by omega), b_9, b_19, if_true, if_false, sr_self], by simp only [giveBackR, clf (show f_10 < 2 ^ 31 by omega), b_9, b_19, if_true, if_false, sr_self]⟩)

set_option maxHeartbeats 4000000 in
set_option maxRecDepth 100000 in
theorem cX4_placeMould_ok (l : Launch) (G : GT) (X : St) (n : Nat) (hp : n < 11) (hi : PInv (X.1 n)) (x : Int32) : MetI l G yX4_placeMould (wsG yX4_placeMould cX4_placeMould 2 (some .int)) (rmz 1 21) [.ref (ad G (65 * n + 0)), .int x] X (fun res Y => res = (placeMouldR (X.1 n) x).1 ∧ Y = setRow X n (placeMouldR (X.1 n) x).2) := by
  refine g_met (cc := cX4_placeMould) (maxL := 2) (ret := (some .int)) (by decide) rfl (Nat.le_of_ble_eq_true rfl) ?_
  intro p e s m below meth c ls C hr hlk hnm hW hl
  have hx := C.1.1
  have hb := C.1.2.1
  have hS : va_S (Ab G) s.heap s.heap [] := va_S.rf
  have hl : lv_has ls 2 [(0, .ref (ad G (65 * n + 0))), (1, .int x)] := hl
  obtain ⟨⟨km, hkm, em⟩, ⟨ki, hki, ei⟩⟩ := hi
  refine lv_iload_n hx hb dX4_placeMould_0 rfl (lv_at hl 1 rfl) ?_
  refine lv_iconst (v := 1) hx hb dX4_placeMould_1 (by decide) ?_
  refine lv_icmp_lt (tgt := 11) hx hb dX4_placeMould_2 (by decide) (fun b_1 => ?_) (fun b_1 => ?_)
  · refine lv_bipush (v := (-2)) hx hb dX4_placeMould_11 (by decide) ?_
    exact g_iret C hr hlk hW hS dX4_placeMould_13 (by exact ⟨by simp only [placeMouldR, b_1, em, ei, pk_us, nI_1, nI_pred, Nat.add_sub_cancel, clf (show km < 2 ^ 31 by omega), clf (show ki < 2 ^ 31 by omega), if_true, if_false, sr_self], by simp only [placeMouldR, b_1, em, ei, pk_us, nI_1, nI_pred, Nat.add_sub_cancel, clf (show km < 2 ^ 31 by omega), clf (show ki < 2 ^ 31 by omega), if_true, if_false, sr_self]⟩)
  · refine lv_iload_n hx hb dX4_placeMould_5 rfl (lv_at hl 1 rfl) ?_
    refine lv_bipush (v := 40) hx hb dX4_placeMould_6 (by decide) ?_
    refine lv_icmp_le (tgt := 14) hx hb dX4_placeMould_8 (by decide) (fun b_2 => ?_) (fun b_2 => ?_)
    · refine lv_aload_n hx hb dX4_placeMould_14 rfl (lv_at hl 0 rfl) ?_
      refine gP_mouldCount C hW hp (hwc hwX4) (mc qw_165) dX4_placeMould_15 ?_
      refine g_top (y := nI km) em ?_
      refine lv_bipush (v := 6) hx hb dX4_placeMould_18 (by decide) ?_
      refine lv_icmp_lt (tgt := 26) hx hb dX4_placeMould_20 (by decide) (fun b_3 => ?_) (fun b_3 => ?_)
      · have hm6 : km < 6 := nI_lt6 (by omega) b_3
        refine lv_aload_n hx hb dX4_placeMould_26 rfl (lv_at hl 0 rfl) ?_
        refine gP_volumes C hW hp (hwc hwX4) (mc qw_163) dX4_placeMould_27 ?_
        refine lv_aload_n hx hb dX4_placeMould_30 rfl (lv_at hl 0 rfl) ?_
        refine gP_mouldCount C hW hp (hwc hwX4) (mc qw_165) dX4_placeMould_31 ?_
        refine g_top (y := nI km) em ?_
        refine lv_iload_n hx hb dX4_placeMould_34 rfl (lv_at hl 1 rfl) ?_
        refine g_volsst C hW hS hp km (nI_clamp (by omega)) (vp_in_nI (show km < 6 by omega) (by decide)) dX4_placeMould_35 (fun H_4 locs_5 hW_6 hS_7 => ?_)
        obtain ⟨w_8, ew_8⟩ : ∃ Z9, Z9 = upd (X.1 n) (48 + 6 * km) x := ⟨_, rfl⟩
        have kn_9 : w_8 (42) = nI km := by rw [ew_8]; exact (pk_un (by omega)).trans em
        have kn_10 : w_8 (43) = nI ki := by rw [ew_8]; exact (pk_un (by omega)).trans ei
        have hW_11 : Wd G (setRow X n w_8) H_4 := Wd.cast (by rw [ew_8]; exact st_base) hW_6
        refine lv_aload_n hx hb dX4_placeMould_36 rfl (lv_at hl 0 rfl) ?_
        refine gP_moulds C hW_11 hp (hwc hwX4) (mc qw_161) dX4_placeMould_37 ?_
        refine lv_aload_n hx hb dX4_placeMould_40 rfl (lv_at hl 0 rfl) ?_
        refine gP_mouldCount C hW_11 hp (hwc hwX4) (mc qw_165) dX4_placeMould_41 ?_
        refine g_top (y := w_8 (42)) (congrFun rd_out _) ?_
        refine g_top (y := nI km) kn_9 ?_
        refine g_mou C hW_11 hp km (nI_clamp (by omega)) (vp_in_nI (show km < 6 by omega) (by decide)) dX4_placeMould_44 ?_
        refine g_callv (va_runV (As := []) (rest := []) C.1 (cX3_clear_ok l G (setRow X n w_8) (65 * n + (29 + 2 * km)) (65 * n + (30 + 2 * km)) n (44 + 6 * km) (mix_mou (G := G) hp (show km < 6 by omega))) (cwV 0 C.1.2.2.2.2 (gV qw_872 qw_873 qw_874 qw_73 qw_875) rfl rfl rfl (by decide +kernel) ⟨Nat.le_of_ble_eq_true rfl, Nat.le_of_ble_eq_true rfl⟩) (g_rMix C hW_11 hS_7 (mix_mou (G := G) hp (show km < 6 by omega)) []) rfl rfl hl.1 rfl (lv_room (Nat.le_of_ble_eq_true rfl)) dX4_placeMould_45 ⟨Nat.zero_le _, Nat.zero_le _⟩) hS_7 (fun Y_13 H_14 locs_15 hW_16 hS_17 h_12 => ?_)
        obtain ⟨w_18, ew_18⟩ : ∃ Z9, Z9 = clrR w_8 (44 + 6 * km) := ⟨_, rfl⟩
        have kn_19 : w_18 (42) = nI km := by rw [ew_18]; exact (kp_clrR (by omega)).trans kn_9
        have kn_20 : w_18 (43) = nI ki := by rw [ew_18]; exact (kp_clrR (by omega)).trans kn_10
        have hW_21 : Wd G (setRow X n w_18) H_14 := Wd.cast (by rw [h_12, ew_18]; exact ((congrArg (fun Z9 => setRow (setRow X n w_8) n (clrR Z9 (44 + 6 * km))) rd_out).trans sr_out)) hW_16
        refine lv_aload_n hx hb dX4_placeMould_48 rfl (lv_at hl 0 rfl) ?_
        refine lv_dup hx hb dX4_placeMould_49 rfl ?_
        refine gP_mouldCount C hW_21 hp (hwc hwX4) (mc qw_165) dX4_placeMould_50 ?_
        refine g_top (y := w_18 (42)) (congrFun rd_out _) ?_
        refine g_top (y := nI km) kn_19 ?_
        refine lv_iconst (v := 1) hx hb dX4_placeMould_53 (by decide) ?_
        refine lv_iadd hx hb dX4_placeMould_54 ?_
        refine g_top (y := nI (km + 1)) (nI_add km 1) ?_
        refine gP_mouldCountP C hW_21 hS_17 hp (hwc hwX4) (mc qw_165) dX4_placeMould_55 (fun H_22 locs_23 hW_24 hS_25 => ?_)
        obtain ⟨w_26, ew_26⟩ : ∃ Z9, Z9 = upd w_18 (42) (nI (km + 1)) := ⟨_, rfl⟩
        have kn_27 : w_26 (43) = nI ki := by rw [ew_26]; exact (pk_un (by omega)).trans kn_20
        have kn_28 : w_26 (42) = nI (km + 1) := by rw [ew_26]; exact pk_us
        have hW_29 : Wd G (setRow X n w_26) H_22 := Wd.cast (by rw [ew_26]; exact st_out) hW_24
        refine lv_aload_n hx hb dX4_placeMould_58 rfl (lv_at hl 0 rfl) ?_
        refine gP_mouldCount C hW_29 hp (hwc hwX4) (mc qw_165) dX4_placeMould_59 ?_
        refine g_top (y := w_26 (42)) (congrFun rd_out _) ?_
        refine g_top (y := nI (km + 1)) kn_28 ?_
        refine lv_iconst (v := 1) hx hb dX4_placeMould_62 (by decide) ?_
        refine lv_isub hx hb dX4_placeMould_63 ?_
        refine g_top (y := nI (km + 1 - 1)) (pk_sub (a := (km + 1)) (b := 1) (by omega)) ?_
        exact g_iret C hr hlk hW_29 hS_25 dX4_placeMould_64 (by exact ⟨by simp only [placeMouldR, b_1, b_2, b_3, ← ew_8, ← ew_18, ← ew_26, em, ei, pk_us, nI_1, nI_pred, Nat.add_sub_cancel, clf (show km < 2 ^ 31 by omega), clf (show ki < 2 ^ 31 by omega), if_true, if_false, sr_self], by simp only [placeMouldR, b_1, b_2, b_3, ← ew_8, ← ew_18, ← ew_26, em, ei, pk_us, nI_1, nI_pred, Nat.add_sub_cancel, clf (show km < 2 ^ 31 by omega), clf (show ki < 2 ^ 31 by omega), if_true, if_false, sr_self]⟩)
      · refine lv_bipush (v := (-4)) hx hb dX4_placeMould_23 (by decide) ?_
        exact g_iret C hr hlk hW hS dX4_placeMould_25 (by exact ⟨by simp only [placeMouldR, b_1, b_2, b_3, em, ei, pk_us, nI_1, nI_pred, Nat.add_sub_cancel, clf (show km < 2 ^ 31 by omega), clf (show ki < 2 ^ 31 by omega), if_true, if_false, sr_self], by simp only [placeMouldR, b_1, b_2, b_3, em, ei, pk_us, nI_1, nI_pred, Nat.add_sub_cancel, clf (show km < 2 ^ 31 by omega), clf (show ki < 2 ^ 31 by omega), if_true, if_false, sr_self]⟩)
    · refine lv_bipush (v := (-2)) hx hb dX4_placeMould_11 (by decide) ?_
      exact g_iret C hr hlk hW hS dX4_placeMould_13 (by exact ⟨by simp only [placeMouldR, b_1, b_2, em, ei, pk_us, nI_1, nI_pred, Nat.add_sub_cancel, clf (show km < 2 ^ 31 by omega), clf (show ki < 2 ^ 31 by omega), if_true, if_false, sr_self], by simp only [placeMouldR, b_1, b_2, em, ei, pk_us, nI_1, nI_pred, Nat.add_sub_cancel, clf (show km < 2 ^ 31 by omega), clf (show ki < 2 ^ 31 by omega), if_true, if_false, sr_self]⟩)
