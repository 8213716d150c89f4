/-! The class's own queries: the number of the exception (0: none), and the answer. -/
theorem nar_liq (w : Nat → Int32) (i : Nat) : narrow .boolean (.int (liqW w i)) = .int (liqW w i) := by
  unfold liqW
  split
  · rfl
  · split <;> rfl
theorem nar_grade (w : Nat → Int32) (i : Nat) : narrow .char (.int (gradeW w i)) = .int (gradeW w i) := by
  unfold gradeW
  repeat' split
  all_goals rfl
theorem h0_11 : 0 < 11 := by decide
theorem h10_11 : 10 < 11 := by decide
theorem refOut {x : Int32} (n1 : ¬ x = (-1)) (n2 : ¬ x = (-2)) (n3 : ¬ x = (-3)) (n4 : ¬ x = (-4)) (n5 : ¬ x = (-5)) : x.toInt < -5 ∨ -1 < x.toInt := by
  have h1 : x.toInt ≠ -1 := fun h => n1 (Int32.toInt_inj.mp (h.trans (by decide)))
  have h2 : x.toInt ≠ -2 := fun h => n2 (Int32.toInt_inj.mp (h.trans (by decide)))
  have h3 : x.toInt ≠ -3 := fun h => n3 (Int32.toInt_inj.mp (h.trans (by decide)))
  have h4 : x.toInt ≠ -4 := fun h => n4 (Int32.toInt_inj.mp (h.trans (by decide)))
  have h5 : x.toInt ≠ -5 := fun h => n5 (Int32.toInt_inj.mp (h.trans (by decide)))
  omega
def refE (x : Int32) : Option String := if x = (-1) then some "java/lang/IndexOutOfBoundsException" else if x = (-2) then some "java/lang/IllegalArgumentException" else if x = (-3) then some "java/util/NoSuchElementException" else if x = (-4) then some "java/lang/IllegalStateException" else if x = (-5) then some "java/lang/UnsupportedOperationException" else none
def exN (L : List String) (E : String) (k : Int32) : Prop := ∃ i : Nat, L[i]? = some E ∧ k = nI (i + 1)
def oF_furnaceMass (w : Nat → Int32) (x y : Int32) : Int32 × Int32 := if sOut x 3 = 0 then (if matOf y = -1 then (nI 2, 0) else (0, w (9 + 6 * x.toNatClampNeg + (matOf y).toNatClampNeg))) else (nI 1, 0)
def oF_furnaceTotal (w : Nat → Int32) (x : Int32) : Int32 × Int32 := if sOut x 3 = 0 then (0, sumW w (9 + 6 * x.toNatClampNeg)) else (nI 1, 0)
def oF_furnaceTemperature (w : Nat → Int32) (x : Int32) : Int32 × Int32 := if sOut x 3 = 0 then (0, w (9 + 6 * x.toNatClampNeg + 4)) else (nI 1, 0)
def oF_fire (w : Nat → Int32) (x : Int32) : Int32 × Int32 := if sOut x 3 = 0 then (0, w (14 + 6 * x.toNatClampNeg)) else (nI 1, 0)
def oF_isMolten (w : Nat → Int32) (x : Int32) : Int32 × Int32 := if sOut x 3 = 0 then (0, liqW w (9 + 6 * x.toNatClampNeg)) else (nI 1, 0)
def oF_ladleMass (w : Nat → Int32) (x y : Int32) : Int32 × Int32 := if sOut x 3 = 0 then (if matOf y = -1 then (nI 2, 0) else (0, w (27 + 5 * x.toNatClampNeg + (matOf y).toNatClampNeg))) else (nI 1, 0)
def oF_ladleTotal (w : Nat → Int32) (x : Int32) : Int32 × Int32 := if sOut x 3 = 0 then (0, sumW w (27 + 5 * x.toNatClampNeg)) else (nI 1, 0)
def oF_ladleTemperature (w : Nat → Int32) (x : Int32) : Int32 × Int32 := if sOut x 3 = 0 then (0, w (27 + 5 * x.toNatClampNeg + 4)) else (nI 1, 0)
def oF_pouringMinutes (w : Nat → Int32) (x : Int32) : Int32 × Int32 := if sOut x 3 = 0 then (if liqW w (27 + 5 * x.toNatClampNeg) = 0 then (nI 2, 0) else (0, (w (27 + 5 * x.toNatClampNeg + 4) - ptW w (27 + 5 * x.toNatClampNeg)) / 10)) else (nI 1, 0)
def oF_volume (w : Nat → Int32) (x : Int32) : Int32 × Int32 := if sOut x (w 42) = 0 then (0, w (48 + 6 * x.toNatClampNeg)) else (nI 1, 0)
def oF_isFilled (w : Nat → Int32) (x : Int32) : Int32 × Int32 := if sOut x (w 42) = 0 then (0, if sumW w (44 + 6 * x.toNatClampNeg) ≤ 0 then 0 else 1) else (nI 1, 0)
def oF_mouldMass (w : Nat → Int32) (x y : Int32) : Int32 × Int32 := if sOut x (w 42) = 0 then (if matOf y = -1 then (nI 2, 0) else (0, w (44 + 6 * x.toNatClampNeg + (matOf y).toNatClampNeg))) else (nI 1, 0)
def oF_ingotMass (w : Nat → Int32) (x y : Int32) : Int32 × Int32 := if sOut x (w 43) = 0 then (if matOf y = -1 then (nI 2, 0) else (0, w (80 + 4 * x.toNatClampNeg + (matOf y).toNatClampNeg))) else (nI 1, 0)
def oF_share (w : Nat → Int32) (x y : Int32) : Int32 × Int32 := if sOut x (w 43) = 0 then (if matOf y = -1 then (nI 2, 0) else (0, thW w (80 + 4 * x.toNatClampNeg) (matOf y).toNatClampNeg)) else (nI 1, 0)
def oF_grade (w : Nat → Int32) (x : Int32) : Int32 × Int32 := if sOut x (w 43) = 0 then (0, gradeW w (80 + 4 * x.toNatClampNeg)) else (nI 1, 0)
def oF_charged (w : Nat → Int32) (y : Int32) : Int32 × Int32 := if matOf y = -1 then (nI 1, 0) else (0, w (1 + (matOf y).toNatClampNeg))
def oF_slag (w : Nat → Int32) (y : Int32) : Int32 × Int32 := if matOf y = -1 then (nI 1, 0) else (0, w (5 + (matOf y).toNatClampNeg))
def oF_stock (w : Nat → Int32) (y : Int32) : Int32 × Int32 := if matOf y = -1 then (nI 1, 0) else (0, stkW w (matOf y).toNatClampNeg)
def oF_stockByAccounts (w : Nat → Int32) (y : Int32) : Int32 × Int32 := if matOf y = -1 then (nI 1, 0) else (0, w (1 + (matOf y).toNatClampNeg) - w (5 + (matOf y).toNatClampNeg))
def oF_furnaceByTemperature (w : Nat → Int32) (x : Int32) : Int32 × Int32 := if rankFW w 0 = x then (0, 0) else if rankFW w 1 = x then (0, 1) else if rankFW w 2 = x then (0, 2) else (nI 1, 0)
set_option maxHeartbeats 4000000 in
set_option maxRecDepth 100000 in
theorem cX7_throwIfRefused_ok (l : Launch) (G : GT) (hst : l.stackTraces = false) (X : St) (x : Int32) : MetXV l G 1 yX7_throwIfRefused (wsG yX7_throwIfRefused cX7_throwIfRefused 1 none) (rmk 1 6 100) [.int x] X (fun Y => refE x = none ∧ Y = X) (fun E Y => refE x = some E ∧ Y = X) := by
  refine g_metX (cc := cX7_throwIfRefused) (maxL := 1) (ret := none) (by decide) rfl (Nat.le_of_ble_eq_true rfl) ?_
  intro p e s m below meth c ls C hr hlk hex hW hl
  have hx := C.1.1
  have hb := C.1.2.1
  have hS : va_S (Ab G) s.heap s.heap [] := va_S.rf
  have hl : lv_has ls 1 [(0, .int x)] := hl
  refine lv_iload_n hx hb dX7_throwIfRefused_0 rfl (lv_at hl 0 rfl) ?_
  by_cases n1 : x = (-1)
  · subst n1
    refine lv_tableIn (tgt := 36) hx hb dX7_throwIfRefused_1 (by decide) (by decide) rfl (by decide) ?_
    exact g_thr0 C hst (ik := 102) (ic := 104) (names := ["java/lang/RuntimeException", "java/lang/Exception"]) hex hlk hl.1 (by decide) (by decide) (mc qk_IOOBE) (mc qi_IOOBE) (fun w hw => mc (qg_IOOBE w hw)) qn_IOOBE nest_on qo_IOOBE dX7_throwIfRefused_36 dX7_throwIfRefused_39 dX7_throwIfRefused_40 dX7_throwIfRefused_43 (Nat.le_of_ble_eq_true rfl) (Nat.le_of_ble_eq_true rfl) (by decide) (by decide) (by decide) (by decide) hW hS ⟨by decide, rfl⟩
  by_cases n2 : x = (-2)
  · subst n2
    refine lv_tableIn (tgt := 44) hx hb dX7_throwIfRefused_1 (by decide) (by decide) rfl (by decide) ?_
    exact g_thr0 C hst (ik := 105) (ic := 107) (names := ["java/lang/RuntimeException", "java/lang/Exception"]) hex hlk hl.1 (by decide) (by decide) (mc qk_IAE) (mc qi_IAE) (fun w hw => mc (qg_IAE w hw)) qn_IAE nest_on qo_IAE dX7_throwIfRefused_44 dX7_throwIfRefused_47 dX7_throwIfRefused_48 dX7_throwIfRefused_51 (Nat.le_of_ble_eq_true rfl) (Nat.le_of_ble_eq_true rfl) (by decide) (by decide) (by decide) (by decide) hW hS ⟨by decide, rfl⟩
  by_cases n3 : x = (-3)
  · subst n3
    refine lv_tableIn (tgt := 52) hx hb dX7_throwIfRefused_1 (by decide) (by decide) rfl (by decide) ?_
    exact g_thr0 C hst (ik := 108) (ic := 110) (names := ["java/lang/RuntimeException", "java/lang/Exception"]) hex hlk hl.1 (by decide) (by decide) (mc qk_NSEE) (mc qi_NSEE) (fun w hw => mc (qg_NSEE w hw)) qn_NSEE nest_on qo_NSEE dX7_throwIfRefused_52 dX7_throwIfRefused_55 dX7_throwIfRefused_56 dX7_throwIfRefused_59 (Nat.le_of_ble_eq_true rfl) (Nat.le_of_ble_eq_true rfl) (by decide) (by decide) (by decide) (by decide) hW hS ⟨by decide, rfl⟩
  by_cases n4 : x = (-4)
  · subst n4
    refine lv_tableIn (tgt := 60) hx hb dX7_throwIfRefused_1 (by decide) (by decide) rfl (by decide) ?_
    exact g_thr0 C hst (ik := 111) (ic := 113) (names := ["java/lang/RuntimeException", "java/lang/Exception"]) hex hlk hl.1 (by decide) (by decide) (mc qk_ISE) (mc qi_ISE) (fun w hw => mc (qg_ISE w hw)) qn_ISE nest_on qo_ISE dX7_throwIfRefused_60 dX7_throwIfRefused_63 dX7_throwIfRefused_64 dX7_throwIfRefused_67 (Nat.le_of_ble_eq_true rfl) (Nat.le_of_ble_eq_true rfl) (by decide) (by decide) (by decide) (by decide) hW hS ⟨by decide, rfl⟩
  by_cases n5 : x = (-5)
  · subst n5
    refine lv_tableIn (tgt := 68) hx hb dX7_throwIfRefused_1 (by decide) (by decide) rfl (by decide) ?_
    exact g_thr0 C hst (ik := 114) (ic := 116) (names := ["java/lang/RuntimeException", "java/lang/Exception"]) hex hlk hl.1 (by decide) (by decide) (mc qk_UOE) (mc qi_UOE) (fun w hw => mc (qg_UOE w hw)) qn_UOE nest_on qo_UOE dX7_throwIfRefused_68 dX7_throwIfRefused_71 dX7_throwIfRefused_72 dX7_throwIfRefused_75 (Nat.le_of_ble_eq_true rfl) (Nat.le_of_ble_eq_true rfl) (by decide) (by decide) (by decide) (by decide) hW hS ⟨by decide, rfl⟩
  refine lv_tableOut (tgt := 76) hx hb dX7_throwIfRefused_1 (refOut n1 n2 n3 n4 n5) (by decide) ?_
  refine W.widen (k := 1) (n := 6) (by decide) (by decide) ?_
  refine vx_ret ?_
  exact g_vret C hr hlk hW hS dX7_throwIfRefused_76 ⟨by simp only [refE, n1, n2, n3, n4, n5, if_false], rfl⟩

set_option maxHeartbeats 4000000 in
set_option maxRecDepth 100000 in
theorem cX7_requireIndex_ok (l : Launch) (G : GT) (hst : l.stackTraces = false) (X : St) (x n : Int32) : MetXV l G 1 yX7_requireIndex (wsG yX7_requireIndex cX7_requireIndex 2 none) (rmk 1 6 100) [.int x, .int n] X (fun Y => sOut x n = 0 ∧ Y = X) (fun E Y => (E = "java/lang/IndexOutOfBoundsException" ∧ ¬ sOut x n = 0) ∧ Y = X) := by
  refine g_metX (cc := cX7_requireIndex) (maxL := 2) (ret := none) (by decide) rfl (Nat.le_of_ble_eq_true rfl) ?_
  intro p e s m below meth c ls C hr hlk hex hW hl
  have hx := C.1.1
  have hb := C.1.2.1
  have hS : va_S (Ab G) s.heap s.heap [] := va_S.rf
  have hl : lv_has ls 2 [(0, .int x), (1, .int n)] := hl
  refine lv_iload_n hx hb dX7_requireIndex_0 rfl (lv_at hl 0 rfl) ?_
  refine lv_iload_n hx hb dX7_requireIndex_1 rfl (lv_at hl 1 rfl) ?_
  refine g_calli (va_runS (As := [.int x, .int n]) (rest := []) C.1 (cX7_outside_ok l G X x n) (va_cwS 2 C.1.2.2.2.2 (gS qw_1081 qw_826 qw_71 qw_827) rfl rfl rfl (by decide +kernel) ⟨Nat.le_of_ble_eq_true rfl, Nat.le_of_ble_eq_true rfl⟩) (g_pre C hW hS [.int x, .int n]) rfl rfl hl.1 rfl (lv_room (Nat.le_of_ble_eq_true rfl)) dX7_requireIndex_2 ⟨by decide, by decide⟩) hS (fun r_2 Y_3 H_4 locs_5 hW_6 hS_7 h_1 => ?_)
  obtain ⟨h_1, hy_8⟩ := h_1
  replace hy_8 := hy_8.symm
  subst hy_8
  subst h_1
  refine lv_if_eq (tgt := 16) hx hb dX7_requireIndex_5 (by decide) (fun b_9 => ?_) (fun b_9 => ?_)
  · refine W.widen (k := 1) (n := 6) (by decide) (by decide) ?_
    refine vx_ret ?_
    exact g_vret C hr hlk hW_6 hS_7 dX7_requireIndex_16 ⟨b_9, rfl⟩
  · exact g_thr0 C hst (ik := 102) (ic := 104) (names := ["java/lang/RuntimeException", "java/lang/Exception"]) hex hlk hl.1 (by decide) (by decide) (mc qk_IOOBE) (mc qi_IOOBE) (fun w hw => mc (qg_IOOBE w hw)) qn_IOOBE nest_on qo_IOOBE dX7_requireIndex_8 dX7_requireIndex_11 dX7_requireIndex_12 dX7_requireIndex_15 (Nat.le_of_ble_eq_true rfl) (Nat.le_of_ble_eq_true rfl) (by decide) (by decide) (by decide) (by decide) hW_6 hS_7 ⟨⟨rfl, b_9⟩, rfl⟩

set_option maxHeartbeats 4000000 in
set_option maxRecDepth 100000 in
theorem cX7_requireMaterial_ok (l : Launch) (G : GT) (hst : l.stackTraces = false) (X : St) (x : Int32) : MetXI l G 1 yX7_requireMaterial (wsG yX7_requireMaterial cX7_requireMaterial 2 (some .int)) (rmk 1 6 100) [.int x] X (fun res Y => (res = matOf x ∧ ¬ matOf x = -1) ∧ Y = X) (fun E Y => (E = "java/lang/IllegalArgumentException" ∧ matOf x = -1) ∧ Y = X) := by
  refine g_metX (cc := cX7_requireMaterial) (maxL := 2) (ret := (some .int)) (by decide) rfl (Nat.le_of_ble_eq_true rfl) ?_
  intro p e s m below meth c ls C hr hlk hex hW hl
  have hx := C.1.1
  have hb := C.1.2.1
  have hS : va_S (Ab G) s.heap s.heap [] := va_S.rf
  have hl : lv_has ls 2 [(0, .int x)] := hl
  refine lv_iload_n hx hb dX7_requireMaterial_0 rfl (lv_at hl 0 rfl) ?_
  refine g_calli (va_runS (As := [.int x]) (rest := []) C.1 (cX7_materialOf_ok l G X x) (va_cwS 1 C.1.2.2.2.2 (gS qw_1085 qw_829 qw_71 qw_830) rfl rfl rfl (by decide +kernel) ⟨Nat.le_of_ble_eq_true rfl, Nat.le_of_ble_eq_true rfl⟩) (g_pre C hW hS [.int x]) rfl rfl hl.1 rfl (lv_room (Nat.le_of_ble_eq_true rfl)) dX7_requireMaterial_1 ⟨by decide, by decide⟩) hS (fun r_2 Y_3 H_4 locs_5 hW_6 hS_7 h_1 => ?_)
  obtain ⟨h_1, hy_8⟩ := h_1
  replace hy_8 := hy_8.symm
  subst hy_8
  subst h_1
  refine lv_topi (fun v_9 ev_9 => ?_)
  refine lv_istore_n (lv' := [(1, .int v_9), (0, .int x)]) hx hb dX7_requireMaterial_4 rfl hl (by decide) rfl (fun ls_10 hl_11 => ?_)
  refine lv_iload_n hx hb dX7_requireMaterial_5 rfl (lv_at hl_11 0 rfl) ?_
  refine lv_iconst (v := (-1)) hx hb dX7_requireMaterial_6 (by decide) ?_
  refine lv_icmp_ne (tgt := 18) hx hb dX7_requireMaterial_7 (by decide) (fun b_12 => ?_) (fun b_12 => ?_)
  · refine lv_iload_n hx hb dX7_requireMaterial_18 rfl (lv_at hl_11 0 rfl) ?_
    refine W.widen (k := 1) (n := 6) (by decide) (by decide) ?_
    refine vx_ret ?_
    exact g_iret C hr hlk hW_6 hS_7 dX7_requireMaterial_19 (by subst ev_9; exact ⟨⟨rfl, b_12⟩, rfl⟩)
  · exact g_thr0 C hst (ik := 105) (ic := 107) (names := ["java/lang/RuntimeException", "java/lang/Exception"]) hex hlk hl_11.1 (by decide) (by decide) (mc qk_IAE) (mc qi_IAE) (fun w hw => mc (qg_IAE w hw)) qn_IAE nest_on qo_IAE dX7_requireMaterial_10 dX7_requireMaterial_13 dX7_requireMaterial_14 dX7_requireMaterial_17 (Nat.le_of_ble_eq_true rfl) (Nat.le_of_ble_eq_true rfl) (by decide) (by decide) (by decide) (by decide) hW_6 hS_7 (by subst ev_9; exact ⟨⟨rfl, b_12⟩, rfl⟩)

set_option maxHeartbeats 4000000 in
set_option maxRecDepth 100000 in
theorem cX7_furnaceMass_ok (l : Launch) (G : GT) (hst : l.stackTraces = false) (X : St) (x y : Int32) : MetXI l G 2 yX7_furnaceMass (wsG yX7_furnaceMass cX7_furnaceMass 3 (some .int)) (rmk 2 7 121) [.ref (ad G 715), .int x, .int y] X (fun res Y => ((oF_furnaceMass (X.1 0) x y).1 = 0 ∧ res = (oF_furnaceMass (X.1 0) x y).2) ∧ Y = X) (fun E Y => exN ["java/lang/IndexOutOfBoundsException", "java/lang/IllegalArgumentException"] E (oF_furnaceMass (X.1 0) x y).1 ∧ Y = X) := by
  refine g_metX (cc := cX7_furnaceMass) (maxL := 3) (ret := (some .int)) (by decide) rfl (Nat.le_of_ble_eq_true rfl) ?_
  intro p e s m below meth c ls C hr hlk hex hW hl
  have hx := C.1.1
  have hb := C.1.2.1
  have hS : va_S (Ab G) s.heap s.heap [] := va_S.rf
  have hl : lv_has ls 3 [(0, .ref (ad G 715)), (1, .int x), (2, .int y)] := hl
  refine lv_iload_n hx hb dX7_furnaceMass_0 rfl (lv_at hl 1 rfl) ?_
  refine lv_iconst (v := 3) hx hb dX7_furnaceMass_1 (by decide) ?_
  refine g_cxv (vx_runS (As := [.int x, .int 3]) (rest := []) C.1 (cX7_requireIndex_ok l G hst X x 3) (va_cwS 2 C.1.2.2.2.2 (gS qw_1078 qw_1079 qw_71 qw_1080) rfl rfl rfl (by decide +kernel) ⟨Nat.le_of_ble_eq_true rfl, Nat.le_of_ble_eq_true rfl⟩) (g_pre C hW hS [.int x, .int 3]) rfl rfl hl.1 rfl (lv_room (Nat.le_of_ble_eq_true rfl)) dX7_furnaceMass_2 ⟨by decide, by decide⟩) hS ?_ ?_
  · intro E9 ce9 q9 Y_2 H9 locs9 hW9 hS9 h_1 h91 h92 h93
    obtain ⟨⟨hE_5, b_4⟩, hy_3⟩ := h_1
    replace hy_3 := hy_3.symm
    subst hy_3
    subst hE_5
    exact g_out hex hlk hW9 hS9 (by exact ⟨⟨0, rfl, by simp only [oF_furnaceMass, b_4, if_true, if_false]⟩, rfl⟩) h91 h92 h93 (by decide) (by decide)
  intro Y_7 H_11 locs_12 hW_9 hS_10 h_6
  obtain ⟨b_14, hy_13⟩ := h_6
  replace hy_13 := hy_13.symm
  subst hy_13
  obtain ⟨f_15, hf_15, rfl⟩ := sOut_in3 b_14
  refine lv_aload_n hx hb dX7_furnaceMass_5 rfl (lv_at hl 0 rfl) ?_
  refine gF_plant C hW_9 (hwc hwX7) (mc qw_287) dX7_furnaceMass_6 ?_
  refine gP_furnacesN C hW_9 h0_11 (hwc hwX4) nw_0 dX7_furnaceMass_9 ?_
  refine lv_iload_n hx hb dX7_furnaceMass_12 rfl (lv_at hl 1 rfl) ?_
  refine g_fur C hW_9 h0_11 f_15 (nI_clamp (by omega)) (vp_in_nI hf_15 (by decide)) dX7_furnaceMass_13 ?_
  refine g_contentN C hW_9 (ves_fur (G := G) h0_11 hf_15) (hwc hwX6) nw_1 dX7_furnaceMass_14 ?_
  refine g_massesN C hW_9 (ves_fur (G := G) h0_11 hf_15).mix (hwc hwX3) nw_2 dX7_furnaceMass_17 ?_
  refine lv_iload_n hx hb dX7_furnaceMass_20 rfl (lv_at hl 2 rfl) ?_
  refine g_cxi (vx_runS (As := [.int y]) (rest := [.ref (ad G (65 * 0 + (13 + 3 * f_15)))]) C.1 (cX7_requireMaterial_ok l G hst X y) (va_cwS 1 C.1.2.2.2.2 (gS qw_1082 qw_1083 qw_71 qw_1084) rfl rfl rfl (by decide +kernel) ⟨Nat.le_of_ble_eq_true rfl, Nat.le_of_ble_eq_true rfl⟩) (g_pre C hW_9 hS_10 [.int y]) rfl rfl hl.1 rfl (lv_room (Nat.le_of_ble_eq_true rfl)) dX7_furnaceMass_21 ⟨by decide, by decide⟩) hS_10 ?_ ?_
  · intro E9 ce9 q9 Y_17 H9 locs9 hW9 hS9 h_16 h91 h92 h93
    obtain ⟨⟨hE_20, b_19⟩, hy_18⟩ := h_16
    replace hy_18 := hy_18.symm
    subst hy_18
    subst hE_20
    exact g_out hex hlk hW9 hS9 (by exact ⟨⟨1, rfl, by simp only [oF_furnaceMass, clf (show f_15 < 2 ^ 31 by omega), b_14, b_19, if_true, if_false]⟩, rfl⟩) h91 h92 h93 (by decide) (by decide)
  intro r_23 Y_22 H_26 locs_27 hW_24 hS_25 h_21
  obtain ⟨⟨hr_30, b_29⟩, hy_28⟩ := h_21
  replace hy_28 := hy_28.symm
  subst hy_28
  obtain ⟨j_31, hj_31, hej_31⟩ := matOf_in rfl b_29
  rw [hej_31] at hr_30
  subst hr_30
  refine g_mld C hW_24 (ves_fur (G := G) h0_11 hf_15).mix j_31 (nI_clamp (by omega)) (vp_in_nI hj_31 (by decide)) dX7_furnaceMass_24 ?_
  refine W.widen (k := 2) (n := 12) (by decide) (by decide) ?_
  refine vx_ret ?_
  exact g_iret C hr hlk hW_24 hS_25 dX7_furnaceMass_25 (by exact ⟨⟨by simp only [oF_furnaceMass, clf (show f_15 < 2 ^ 31 by omega), hej_31, clf (show j_31 < 2 ^ 31 by omega), show ¬ nI j_31 = -1 from hej_31 ▸ b_29, b_14, b_29, if_true, if_false], by simp only [oF_furnaceMass, clf (show f_15 < 2 ^ 31 by omega), hej_31, clf (show j_31 < 2 ^ 31 by omega), show ¬ nI j_31 = -1 from hej_31 ▸ b_29, b_14, b_29, if_true, if_false]⟩, rfl⟩)

set_option maxHeartbeats 4000000 in
set_option maxRecDepth 100000 in
theorem cX7_furnaceTotal_ok (l : Launch) (G : GT) (hst : l.stackTraces = false) (X : St) (x : Int32) : MetXI l G 1 yX7_furnaceTotal (wsG yX7_furnaceTotal cX7_furnaceTotal 2 (some .int)) (rmk 1 7 121) [.ref (ad G 715), .int x] X (fun res Y => ((oF_furnaceTotal (X.1 0) x).1 = 0 ∧ res = (oF_furnaceTotal (X.1 0) x).2) ∧ Y = X) (fun E Y => exN ["java/lang/IndexOutOfBoundsException"] E (oF_furnaceTotal (X.1 0) x).1 ∧ Y = X) := by
  refine g_metX (cc := cX7_furnaceTotal) (maxL := 2) (ret := (some .int)) (by decide) rfl (Nat.le_of_ble_eq_true rfl) ?_
  intro p e s m below meth c ls C hr hlk hex hW hl
  have hx := C.1.1
  have hb := C.1.2.1
  have hS : va_S (Ab G) s.heap s.heap [] := va_S.rf
  have hl : lv_has ls 2 [(0, .ref (ad G 715)), (1, .int x)] := hl
  refine lv_iload_n hx hb dX7_furnaceTotal_0 rfl (lv_at hl 1 rfl) ?_
  refine lv_iconst (v := 3) hx hb dX7_furnaceTotal_1 (by decide) ?_
  refine g_cxv (vx_runS (As := [.int x, .int 3]) (rest := []) C.1 (cX7_requireIndex_ok l G hst X x 3) (va_cwS 2 C.1.2.2.2.2 (gS qw_1078 qw_1079 qw_71 qw_1080) rfl rfl rfl (by decide +kernel) ⟨Nat.le_of_ble_eq_true rfl, Nat.le_of_ble_eq_true rfl⟩) (g_pre C hW hS [.int x, .int 3]) rfl rfl hl.1 rfl (lv_room (Nat.le_of_ble_eq_true rfl)) dX7_furnaceTotal_2 ⟨by decide, by decide⟩) hS ?_ ?_
  · intro E9 ce9 q9 Y_2 H9 locs9 hW9 hS9 h_1 h91 h92 h93
    obtain ⟨⟨hE_5, b_4⟩, hy_3⟩ := h_1
    replace hy_3 := hy_3.symm
    subst hy_3
    subst hE_5
    exact g_out hex hlk hW9 hS9 (by exact ⟨⟨0, rfl, by simp only [oF_furnaceTotal, b_4, if_true, if_false]⟩, rfl⟩) h91 h92 h93 (by decide) (by decide)
  intro Y_7 H_11 locs_12 hW_9 hS_10 h_6
  obtain ⟨b_14, hy_13⟩ := h_6
  replace hy_13 := hy_13.symm
  subst hy_13
  obtain ⟨f_15, hf_15, rfl⟩ := sOut_in3 b_14
  refine lv_aload_n hx hb dX7_furnaceTotal_5 rfl (lv_at hl 0 rfl) ?_
  refine gF_plant C hW_9 (hwc hwX7) (mc qw_287) dX7_furnaceTotal_6 ?_
  refine gP_furnacesN C hW_9 h0_11 (hwc hwX4) nw_0 dX7_furnaceTotal_9 ?_
  refine lv_iload_n hx hb dX7_furnaceTotal_12 rfl (lv_at hl 1 rfl) ?_
  refine g_fur C hW_9 h0_11 f_15 (nI_clamp (by omega)) (vp_in_nI hf_15 (by decide)) dX7_furnaceTotal_13 ?_
  refine g_contentN C hW_9 (ves_fur (G := G) h0_11 hf_15) (hwc hwX6) nw_1 dX7_furnaceTotal_14 ?_
  refine g_calli (va_runV (As := []) (rest := []) C.1 (cX3_sum_ok l G X (65 * 0 + (12 + 3 * f_15)) (65 * 0 + (13 + 3 * f_15)) 0 (9 + 6 * f_15) ((ves_fur (G := G) h0_11 hf_15).mix)) (cwV 0 C.1.2.2.2.2 (gV qw_1093 qw_338 qw_339 qw_73 qw_340) rfl rfl rfl (by decide +kernel) ⟨Nat.le_of_ble_eq_true rfl, Nat.le_of_ble_eq_true rfl⟩) (g_rMix C hW_9 hS_10 (ves_fur (G := G) h0_11 hf_15).mix []) rfl rfl hl.1 rfl (lv_room (Nat.le_of_ble_eq_true rfl)) dX7_furnaceTotal_17 ⟨by decide, by decide⟩) hS_10 (fun r_17 Y_18 H_19 locs_20 hW_21 hS_22 h_16 => ?_)
  obtain ⟨h_16, hy_23⟩ := h_16
  replace hy_23 := hy_23.symm
  subst hy_23
  subst h_16
  refine W.widen (k := 1) (n := 6) (by decide) (by decide) ?_
  refine vx_ret ?_
  exact g_iret C hr hlk hW_21 hS_22 dX7_furnaceTotal_20 (by exact ⟨⟨by simp only [oF_furnaceTotal, clf (show f_15 < 2 ^ 31 by omega), b_14, if_true, if_false], by simp only [oF_furnaceTotal, clf (show f_15 < 2 ^ 31 by omega), b_14, if_true, if_false]⟩, rfl⟩)

set_option maxHeartbeats 4000000 in
set_option maxRecDepth 100000 in
theorem cX7_furnaceTemperature_ok (l : Launch) (G : GT) (hst : l.stackTraces = false) (X : St) (x : Int32) : MetXI l G 1 yX7_furnaceTemperature (wsG yX7_furnaceTemperature cX7_furnaceTemperature 2 (some .int)) (rmk 1 7 121) [.ref (ad G 715), .int x] X (fun res Y => ((oF_furnaceTemperature (X.1 0) x).1 = 0 ∧ res = (oF_furnaceTemperature (X.1 0) x).2) ∧ Y = X) (fun E Y => exN ["java/lang/IndexOutOfBoundsException"] E (oF_furnaceTemperature (X.1 0) x).1 ∧ Y = X) := by
  refine g_metX (cc := cX7_furnaceTemperature) (maxL := 2) (ret := (some .int)) (by decide) rfl (Nat.le_of_ble_eq_true rfl) ?_
  intro p e s m below meth c ls C hr hlk hex hW hl
  have hx := C.1.1
  have hb := C.1.2.1
  have hS : va_S (Ab G) s.heap s.heap [] := va_S.rf
  have hl : lv_has ls 2 [(0, .ref (ad G 715)), (1, .int x)] := hl
  refine lv_iload_n hx hb dX7_furnaceTemperature_0 rfl (lv_at hl 1 rfl) ?_
  refine lv_iconst (v := 3) hx hb dX7_furnaceTemperature_1 (by decide) ?_
  refine g_cxv (vx_runS (As := [.int x, .int 3]) (rest := []) C.1 (cX7_requireIndex_ok l G hst X x 3) (va_cwS 2 C.1.2.2.2.2 (gS qw_1078 qw_1079 qw_71 qw_1080) rfl rfl rfl (by decide +kernel) ⟨Nat.le_of_ble_eq_true rfl, Nat.le_of_ble_eq_true rfl⟩) (g_pre C hW hS [.int x, .int 3]) rfl rfl hl.1 rfl (lv_room (Nat.le_of_ble_eq_true rfl)) dX7_furnaceTemperature_2 ⟨by decide, by decide⟩) hS ?_ ?_
  · intro E9 ce9 q9 Y_2 H9 locs9 hW9 hS9 h_1 h91 h92 h93
    obtain ⟨⟨hE_5, b_4⟩, hy_3⟩ := h_1
    replace hy_3 := hy_3.symm
    subst hy_3
    subst hE_5
    exact g_out hex hlk hW9 hS9 (by exact ⟨⟨0, rfl, by simp only [oF_furnaceTemperature, b_4, if_true, if_false]⟩, rfl⟩) h91 h92 h93 (by decide) (by decide)
  intro Y_7 H_11 locs_12 hW_9 hS_10 h_6
  obtain ⟨b_14, hy_13⟩ := h_6
  replace hy_13 := hy_13.symm
  subst hy_13
  obtain ⟨f_15, hf_15, rfl⟩ := sOut_in3 b_14
  refine lv_aload_n hx hb dX7_furnaceTemperature_5 rfl (lv_at hl 0 rfl) ?_
  refine gF_plant C hW_9 (hwc hwX7) (mc qw_287) dX7_furnaceTemperature_6 ?_
  refine gP_furnacesN C hW_9 h0_11 (hwc hwX4) nw_0 dX7_furnaceTemperature_9 ?_
  refine lv_iload_n hx hb dX7_furnaceTemperature_12 rfl (lv_at hl 1 rfl) ?_
  refine g_fur C hW_9 h0_11 f_15 (nI_clamp (by omega)) (vp_in_nI hf_15 (by decide)) dX7_furnaceTemperature_13 ?_
  refine g_tempN C hW_9 (ves_fur (G := G) h0_11 hf_15) (hwc hwX6) nw_3 dX7_furnaceTemperature_14 ?_
  refine W.widen (k := 1) (n := 6) (by decide) (by decide) ?_
  refine vx_ret ?_
  exact g_iret C hr hlk hW_9 hS_10 dX7_furnaceTemperature_17 (by exact ⟨⟨by simp only [oF_furnaceTemperature, clf (show f_15 < 2 ^ 31 by omega), b_14, if_true, if_false], by simp only [oF_furnaceTemperature, clf (show f_15 < 2 ^ 31 by omega), b_14, if_true, if_false]⟩, rfl⟩)

set_option maxHeartbeats 4000000 in
set_option maxRecDepth 100000 in
theorem cX7_fire_ok (l : Launch) (G : GT) (hst : l.stackTraces = false) (X : St) (x : Int32) : MetXI l G 1 yX7_fire (wsG yX7_fire cX7_fire 2 (some .int)) (rmk 1 7 121) [.ref (ad G 715), .int x] X (fun res Y => ((oF_fire (X.1 0) x).1 = 0 ∧ res = (oF_fire (X.1 0) x).2) ∧ Y = X) (fun E Y => exN ["java/lang/IndexOutOfBoundsException"] E (oF_fire (X.1 0) x).1 ∧ Y = X) := by
  refine g_metX (cc := cX7_fire) (maxL := 2) (ret := (some .int)) (by decide) rfl (Nat.le_of_ble_eq_true rfl) ?_
  intro p e s m below meth c ls C hr hlk hex hW hl
  have hx := C.1.1
  have hb := C.1.2.1
  have hS : va_S (Ab G) s.heap s.heap [] := va_S.rf
  have hl : lv_has ls 2 [(0, .ref (ad G 715)), (1, .int x)] := hl
  refine lv_iload_n hx hb dX7_fire_0 rfl (lv_at hl 1 rfl) ?_
  refine lv_iconst (v := 3) hx hb dX7_fire_1 (by decide) ?_
  refine g_cxv (vx_runS (As := [.int x, .int 3]) (rest := []) C.1 (cX7_requireIndex_ok l G hst X x 3) (va_cwS 2 C.1.2.2.2.2 (gS qw_1078 qw_1079 qw_71 qw_1080) rfl rfl rfl (by decide +kernel) ⟨Nat.le_of_ble_eq_true rfl, Nat.le_of_ble_eq_true rfl⟩) (g_pre C hW hS [.int x, .int 3]) rfl rfl hl.1 rfl (lv_room (Nat.le_of_ble_eq_true rfl)) dX7_fire_2 ⟨by decide, by decide⟩) hS ?_ ?_
  · intro E9 ce9 q9 Y_2 H9 locs9 hW9 hS9 h_1 h91 h92 h93
    obtain ⟨⟨hE_5, b_4⟩, hy_3⟩ := h_1
    replace hy_3 := hy_3.symm
    subst hy_3
    subst hE_5
    exact g_out hex hlk hW9 hS9 (by exact ⟨⟨0, rfl, by simp only [oF_fire, b_4, if_true, if_false]⟩, rfl⟩) h91 h92 h93 (by decide) (by decide)
  intro Y_7 H_11 locs_12 hW_9 hS_10 h_6
  obtain ⟨b_14, hy_13⟩ := h_6
  replace hy_13 := hy_13.symm
  subst hy_13
  obtain ⟨f_15, hf_15, rfl⟩ := sOut_in3 b_14
  refine lv_aload_n hx hb dX7_fire_5 rfl (lv_at hl 0 rfl) ?_
  refine gF_plant C hW_9 (hwc hwX7) (mc qw_287) dX7_fire_6 ?_
  refine gP_firesN C hW_9 h0_11 (hwc hwX4) nw_4 dX7_fire_9 ?_
  refine lv_iload_n hx hb dX7_fire_12 rfl (lv_at hl 1 rfl) ?_
  refine g_firesld C hW_9 h0_11 f_15 (nI_clamp (by omega)) (vp_in_nI hf_15 (by decide)) dX7_fire_13 ?_
  refine W.widen (k := 1) (n := 6) (by decide) (by decide) ?_
  refine vx_ret ?_
  exact g_iret C hr hlk hW_9 hS_10 dX7_fire_14 (by exact ⟨⟨by simp only [oF_fire, clf (show f_15 < 2 ^ 31 by omega), b_14, if_true, if_false], by simp only [oF_fire, clf (show f_15 < 2 ^ 31 by omega), b_14, if_true, if_false]⟩, rfl⟩)

set_option maxHeartbeats 4000000 in
set_option maxRecDepth 100000 in
theorem cX7_isMolten_ok (l : Launch) (G : GT) (hst : l.stackTraces = false) (X : St) (x : Int32) : MetXI l G 1 yX7_isMolten (wsG yX7_isMolten cX7_isMolten 2 (some .boolean)) (rmk 1 7 121) [.ref (ad G 715), .int x] X (fun res Y => ((oF_isMolten (X.1 0) x).1 = 0 ∧ res = (oF_isMolten (X.1 0) x).2) ∧ Y = X) (fun E Y => exN ["java/lang/IndexOutOfBoundsException"] E (oF_isMolten (X.1 0) x).1 ∧ Y = X) := by
  refine g_metX (cc := cX7_isMolten) (maxL := 2) (ret := (some .boolean)) (by decide) rfl (Nat.le_of_ble_eq_true rfl) ?_
  intro p e s m below meth c ls C hr hlk hex hW hl
  have hx := C.1.1
  have hb := C.1.2.1
  have hS : va_S (Ab G) s.heap s.heap [] := va_S.rf
  have hl : lv_has ls 2 [(0, .ref (ad G 715)), (1, .int x)] := hl
  refine lv_iload_n hx hb dX7_isMolten_0 rfl (lv_at hl 1 rfl) ?_
  refine lv_iconst (v := 3) hx hb dX7_isMolten_1 (by decide) ?_
  refine g_cxv (vx_runS (As := [.int x, .int 3]) (rest := []) C.1 (cX7_requireIndex_ok l G hst X x 3) (va_cwS 2 C.1.2.2.2.2 (gS qw_1078 qw_1079 qw_71 qw_1080) rfl rfl rfl (by decide +kernel) ⟨Nat.le_of_ble_eq_true rfl, Nat.le_of_ble_eq_true rfl⟩) (g_pre C hW hS [.int x, .int 3]) rfl rfl hl.1 rfl (lv_room (Nat.le_of_ble_eq_true rfl)) dX7_isMolten_2 ⟨by decide, by decide⟩) hS ?_ ?_
  · intro E9 ce9 q9 Y_2 H9 locs9 hW9 hS9 h_1 h91 h92 h93
    obtain ⟨⟨hE_5, b_4⟩, hy_3⟩ := h_1
    replace hy_3 := hy_3.symm
    subst hy_3
    subst hE_5
    exact g_out hex hlk hW9 hS9 (by exact ⟨⟨0, rfl, by simp only [oF_isMolten, b_4, if_true, if_false]⟩, rfl⟩) h91 h92 h93 (by decide) (by decide)
  intro Y_7 H_11 locs_12 hW_9 hS_10 h_6
  obtain ⟨b_14, hy_13⟩ := h_6
  replace hy_13 := hy_13.symm
  subst hy_13
  obtain ⟨f_15, hf_15, rfl⟩ := sOut_in3 b_14
  refine lv_aload_n hx hb dX7_isMolten_5 rfl (lv_at hl 0 rfl) ?_
  refine gF_plant C hW_9 (hwc hwX7) (mc qw_287) dX7_isMolten_6 ?_
  refine gP_furnacesN C hW_9 h0_11 (hwc hwX4) nw_0 dX7_isMolten_9 ?_
  refine lv_iload_n hx hb dX7_isMolten_12 rfl (lv_at hl 1 rfl) ?_
  refine g_fur C hW_9 h0_11 f_15 (nI_clamp (by omega)) (vp_in_nI hf_15 (by decide)) dX7_isMolten_13 ?_
  refine g_calli (va_runV (As := []) (rest := []) C.1 (cX6_liquid_ok l G X (65 * 0 + (11 + 3 * f_15)) (65 * 0 + (12 + 3 * f_15)) (65 * 0 + (13 + 3 * f_15)) 0 (9 + 6 * f_15) 10 (ves_fur (G := G) h0_11 hf_15)) (cwV 0 C.1.2.2.2.2 (gV qw_1135 qw_356 qw_357 qw_74 qw_358) rfl rfl rfl (by decide +kernel) ⟨Nat.le_of_ble_eq_true rfl, Nat.le_of_ble_eq_true rfl⟩) (g_rVes C hW_9 hS_10 (ves_fur (G := G) h0_11 hf_15) []) rfl rfl hl.1 rfl (lv_room (Nat.le_of_ble_eq_true rfl)) dX7_isMolten_14 ⟨by decide, by decide⟩) hS_10 (fun r_17 Y_18 H_19 locs_20 hW_21 hS_22 h_16 => ?_)
  obtain ⟨h_16, hy_23⟩ := h_16
  replace hy_23 := hy_23.symm
  subst hy_23
  subst h_16
  refine W.widen (k := 1) (n := 6) (by decide) (by decide) ?_
  refine vx_ret ?_
  exact g_zret C hr hlk hW_21 hS_22 dX7_isMolten_17 (nar_liq _ _) (by exact ⟨⟨by simp only [oF_isMolten, clf (show f_15 < 2 ^ 31 by omega), b_14, if_true, if_false], by simp only [oF_isMolten, clf (show f_15 < 2 ^ 31 by omega), b_14, if_true, if_false]⟩, rfl⟩)

set_option maxHeartbeats 4000000 in
set_option maxRecDepth 100000 in
theorem cX7_ladleMass_ok (l : Launch) (G : GT) (hst : l.stackTraces = false) (X : St) (x y : Int32) : MetXI l G 2 yX7_ladleMass (wsG yX7_ladleMass cX7_ladleMass 3 (some .int)) (rmk 2 7 121) [.ref (ad G 715), .int x, .int y] X (fun res Y => ((oF_ladleMass (X.1 0) x y).1 = 0 ∧ res = (oF_ladleMass (X.1 0) x y).2) ∧ Y = X) (fun E Y => exN ["java/lang/IndexOutOfBoundsException", "java/lang/IllegalArgumentException"] E (oF_ladleMass (X.1 0) x y).1 ∧ Y = X) := by
  refine g_metX (cc := cX7_ladleMass) (maxL := 3) (ret := (some .int)) (by decide) rfl (Nat.le_of_ble_eq_true rfl) ?_
  intro p e s m below meth c ls C hr hlk hex hW hl
  have hx := C.1.1
  have hb := C.1.2.1
  have hS : va_S (Ab G) s.heap s.heap [] := va_S.rf
  have hl : lv_has ls 3 [(0, .ref (ad G 715)), (1, .int x), (2, .int y)] := hl
  refine lv_iload_n hx hb dX7_ladleMass_0 rfl (lv_at hl 1 rfl) ?_
  refine lv_iconst (v := 3) hx hb dX7_ladleMass_1 (by decide) ?_
  refine g_cxv (vx_runS (As := [.int x, .int 3]) (rest := []) C.1 (cX7_requireIndex_ok l G hst X x 3) (va_cwS 2 C.1.2.2.2.2 (gS qw_1078 qw_1079 qw_71 qw_1080) rfl rfl rfl (by decide +kernel) ⟨Nat.le_of_ble_eq_true rfl, Nat.le_of_ble_eq_true rfl⟩) (g_pre C hW hS [.int x, .int 3]) rfl rfl hl.1 rfl (lv_room (Nat.le_of_ble_eq_true rfl)) dX7_ladleMass_2 ⟨by decide, by decide⟩) hS ?_ ?_
  · intro E9 ce9 q9 Y_2 H9 locs9 hW9 hS9 h_1 h91 h92 h93
    obtain ⟨⟨hE_5, b_4⟩, hy_3⟩ := h_1
    replace hy_3 := hy_3.symm
    subst hy_3
    subst hE_5
    exact g_out hex hlk hW9 hS9 (by exact ⟨⟨0, rfl, by simp only [oF_ladleMass, b_4, if_true, if_false]⟩, rfl⟩) h91 h92 h93 (by decide) (by decide)
  intro Y_7 H_11 locs_12 hW_9 hS_10 h_6
  obtain ⟨b_14, hy_13⟩ := h_6
  replace hy_13 := hy_13.symm
  subst hy_13
  obtain ⟨f_15, hf_15, rfl⟩ := sOut_in3 b_14
  refine lv_aload_n hx hb dX7_ladleMass_5 rfl (lv_at hl 0 rfl) ?_
  refine gF_plant C hW_9 (hwc hwX7) (mc qw_287) dX7_ladleMass_6 ?_
  refine gP_ladlesN C hW_9 h0_11 (hwc hwX4) nw_5 dX7_ladleMass_9 ?_
  refine lv_iload_n hx hb dX7_ladleMass_12 rfl (lv_at hl 1 rfl) ?_
  refine g_lad C hW_9 h0_11 f_15 (nI_clamp (by omega)) (vp_in_nI hf_15 (by decide)) dX7_ladleMass_13 ?_
  refine g_contentN C hW_9 (ves_lad (G := G) h0_11 hf_15) (hwc hwX6) nw_1 dX7_ladleMass_14 ?_
  refine g_massesN C hW_9 (ves_lad (G := G) h0_11 hf_15).mix (hwc hwX3) nw_2 dX7_ladleMass_17 ?_
  refine lv_iload_n hx hb dX7_ladleMass_20 rfl (lv_at hl 2 rfl) ?_
  refine g_cxi (vx_runS (As := [.int y]) (rest := [.ref (ad G (65 * 0 + (22 + 3 * f_15)))]) C.1 (cX7_requireMaterial_ok l G hst X y) (va_cwS 1 C.1.2.2.2.2 (gS qw_1082 qw_1083 qw_71 qw_1084) rfl rfl rfl (by decide +kernel) ⟨Nat.le_of_ble_eq_true rfl, Nat.le_of_ble_eq_true rfl⟩) (g_pre C hW_9 hS_10 [.int y]) rfl rfl hl.1 rfl (lv_room (Nat.le_of_ble_eq_true rfl)) dX7_ladleMass_21 ⟨by decide, by decide⟩) hS_10 ?_ ?_
  · intro E9 ce9 q9 Y_17 H9 locs9 hW9 hS9 h_16 h91 h92 h93
    obtain ⟨⟨hE_20, b_19⟩, hy_18⟩ := h_16
    replace hy_18 := hy_18.symm
    subst hy_18
    subst hE_20
    exact g_out hex hlk hW9 hS9 (by exact ⟨⟨1, rfl, by simp only [oF_ladleMass, clf (show f_15 < 2 ^ 31 by omega), b_14, b_19, if_true, if_false]⟩, rfl⟩) h91 h92 h93 (by decide) (by decide)
  intro r_23 Y_22 H_26 locs_27 hW_24 hS_25 h_21
  obtain ⟨⟨hr_30, b_29⟩, hy_28⟩ := h_21
  replace hy_28 := hy_28.symm
  subst hy_28
  obtain ⟨j_31, hj_31, hej_31⟩ := matOf_in rfl b_29
  rw [hej_31] at hr_30
  subst hr_30
  refine g_mld C hW_24 (ves_lad (G := G) h0_11 hf_15).mix j_31 (nI_clamp (by omega)) (vp_in_nI hj_31 (by decide)) dX7_ladleMass_24 ?_
  refine W.widen (k := 2) (n := 12) (by decide) (by decide) ?_
  refine vx_ret ?_
  exact g_iret C hr hlk hW_24 hS_25 dX7_ladleMass_25 (by exact ⟨⟨by simp only [oF_ladleMass, clf (show f_15 < 2 ^ 31 by omega), hej_31, clf (show j_31 < 2 ^ 31 by omega), show ¬ nI j_31 = -1 from hej_31 ▸ b_29, b_14, b_29, if_true, if_false], by simp only [oF_ladleMass, clf (show f_15 < 2 ^ 31 by omega), hej_31, clf (show j_31 < 2 ^ 31 by omega), show ¬ nI j_31 = -1 from hej_31 ▸ b_29, b_14, b_29, if_true, if_false]⟩, rfl⟩)

set_option maxHeartbeats 4000000 in
set_option maxRecDepth 100000 in
theorem cX7_ladleTotal_ok (l : Launch) (G : GT) (hst : l.stackTraces = false) (X : St) (x : Int32) : MetXI l G 1 yX7_ladleTotal (wsG yX7_ladleTotal cX7_ladleTotal 2 (some .int)) (rmk 1 7 121) [.ref (ad G 715), .int x] X (fun res Y => ((oF_ladleTotal (X.1 0) x).1 = 0 ∧ res = (oF_ladleTotal (X.1 0) x).2) ∧ Y = X) (fun E Y => exN ["java/lang/IndexOutOfBoundsException"] E (oF_ladleTotal (X.1 0) x).1 ∧ Y = X) := by
  refine g_metX (cc := cX7_ladleTotal) (maxL := 2) (ret := (some .int)) (by decide) rfl (Nat.le_of_ble_eq_true rfl) ?_
  intro p e s m below meth c ls C hr hlk hex hW hl
  have hx := C.1.1
  have hb := C.1.2.1
  have hS : va_S (Ab G) s.heap s.heap [] := va_S.rf
  have hl : lv_has ls 2 [(0, .ref (ad G 715)), (1, .int x)] := hl
  refine lv_iload_n hx hb dX7_ladleTotal_0 rfl (lv_at hl 1 rfl) ?_
  refine lv_iconst (v := 3) hx hb dX7_ladleTotal_1 (by decide) ?_
  refine g_cxv (vx_runS (As := [.int x, .int 3]) (rest := []) C.1 (cX7_requireIndex_ok l G hst X x 3) (va_cwS 2 C.1.2.2.2.2 (gS qw_1078 qw_1079 qw_71 qw_1080) rfl rfl rfl (by decide +kernel) ⟨Nat.le_of_ble_eq_true rfl, Nat.le_of_ble_eq_true rfl⟩) (g_pre C hW hS [.int x, .int 3]) rfl rfl hl.1 rfl (lv_room (Nat.le_of_ble_eq_true rfl)) dX7_ladleTotal_2 ⟨by decide, by decide⟩) hS ?_ ?_
  · intro E9 ce9 q9 Y_2 H9 locs9 hW9 hS9 h_1 h91 h92 h93
    obtain ⟨⟨hE_5, b_4⟩, hy_3⟩ := h_1
    replace hy_3 := hy_3.symm
    subst hy_3
    subst hE_5
    exact g_out hex hlk hW9 hS9 (by exact ⟨⟨0, rfl, by simp only [oF_ladleTotal, b_4, if_true, if_false]⟩, rfl⟩) h91 h92 h93 (by decide) (by decide)
  intro Y_7 H_11 locs_12 hW_9 hS_10 h_6
  obtain ⟨b_14, hy_13⟩ := h_6
  replace hy_13 := hy_13.symm
  subst hy_13
  obtain ⟨f_15, hf_15, rfl⟩ := sOut_in3 b_14
  refine lv_aload_n hx hb dX7_ladleTotal_5 rfl (lv_at hl 0 rfl) ?_
  refine gF_plant C hW_9 (hwc hwX7) (mc qw_287) dX7_ladleTotal_6 ?_
  refine gP_ladlesN C hW_9 h0_11 (hwc hwX4) nw_5 dX7_ladleTotal_9 ?_
  refine lv_iload_n hx hb dX7_ladleTotal_12 rfl (lv_at hl 1 rfl) ?_
  refine g_lad C hW_9 h0_11 f_15 (nI_clamp (by omega)) (vp_in_nI hf_15 (by decide)) dX7_ladleTotal_13 ?_
  refine g_contentN C hW_9 (ves_lad (G := G) h0_11 hf_15) (hwc hwX6) nw_1 dX7_ladleTotal_14 ?_
  refine g_calli (va_runV (As := []) (rest := []) C.1 (cX3_sum_ok l G X (65 * 0 + (21 + 3 * f_15)) (65 * 0 + (22 + 3 * f_15)) 0 (27 + 5 * f_15) ((ves_lad (G := G) h0_11 hf_15).mix)) (cwV 0 C.1.2.2.2.2 (gV qw_1093 qw_338 qw_339 qw_73 qw_340) rfl rfl rfl (by decide +kernel) ⟨Nat.le_of_ble_eq_true rfl, Nat.le_of_ble_eq_true rfl⟩) (g_rMix C hW_9 hS_10 (ves_lad (G := G) h0_11 hf_15).mix []) rfl rfl hl.1 rfl (lv_room (Nat.le_of_ble_eq_true rfl)) dX7_ladleTotal_17 ⟨by decide, by decide⟩) hS_10 (fun r_17 Y_18 H_19 locs_20 hW_21 hS_22 h_16 => ?_)
  obtain ⟨h_16, hy_23⟩ := h_16
  replace hy_23 := hy_23.symm
  subst hy_23
  subst h_16
  refine W.widen (k := 1) (n := 6) (by decide) (by decide) ?_
  refine vx_ret ?_
  exact g_iret C hr hlk hW_21 hS_22 dX7_ladleTotal_20 (by exact ⟨⟨by simp only [oF_ladleTotal, clf (show f_15 < 2 ^ 31 by omega), b_14, if_true, if_false], by simp only [oF_ladleTotal, clf (show f_15 < 2 ^ 31 by omega), b_14, if_true, if_false]⟩, rfl⟩)

set_option maxHeartbeats 4000000 in
set_option maxRecDepth 100000 in
theorem cX7_ladleTemperature_ok (l : Launch) (G : GT) (hst : l.stackTraces = false) (X : St) (x : Int32) : MetXI l G 1 yX7_ladleTemperature (wsG yX7_ladleTemperature cX7_ladleTemperature 2 (some .int)) (rmk 1 7 121) [.ref (ad G 715), .int x] X (fun res Y => ((oF_ladleTemperature (X.1 0) x).1 = 0 ∧ res = (oF_ladleTemperature (X.1 0) x).2) ∧ Y = X) (fun E Y => exN ["java/lang/IndexOutOfBoundsException"] E (oF_ladleTemperature (X.1 0) x).1 ∧ Y = X) := by
  refine g_metX (cc := cX7_ladleTemperature) (maxL := 2) (ret := (some .int)) (by decide) rfl (Nat.le_of_ble_eq_true rfl) ?_
  intro p e s m below meth c ls C hr hlk hex hW hl
  have hx := C.1.1
  have hb := C.1.2.1
  have hS : va_S (Ab G) s.heap s.heap [] := va_S.rf
  have hl : lv_has ls 2 [(0, .ref (ad G 715)), (1, .int x)] := hl
  refine lv_iload_n hx hb dX7_ladleTemperature_0 rfl (lv_at hl 1 rfl) ?_
  refine lv_iconst (v := 3) hx hb dX7_ladleTemperature_1 (by decide) ?_
  refine g_cxv (vx_runS (As := [.int x, .int 3]) (rest := []) C.1 (cX7_requireIndex_ok l G hst X x 3) (va_cwS 2 C.1.2.2.2.2 (gS qw_1078 qw_1079 qw_71 qw_1080) rfl rfl rfl (by decide +kernel) ⟨Nat.le_of_ble_eq_true rfl, Nat.le_of_ble_eq_true rfl⟩) (g_pre C hW hS [.int x, .int 3]) rfl rfl hl.1 rfl (lv_room (Nat.le_of_ble_eq_true rfl)) dX7_ladleTemperature_2 ⟨by decide, by decide⟩) hS ?_ ?_
  · intro E9 ce9 q9 Y_2 H9 locs9 hW9 hS9 h_1 h91 h92 h93
    obtain ⟨⟨hE_5, b_4⟩, hy_3⟩ := h_1
    replace hy_3 := hy_3.symm
    subst hy_3
    subst hE_5
    exact g_out hex hlk hW9 hS9 (by exact ⟨⟨0, rfl, by simp only [oF_ladleTemperature, b_4, if_true, if_false]⟩, rfl⟩) h91 h92 h93 (by decide) (by decide)
  intro Y_7 H_11 locs_12 hW_9 hS_10 h_6
  obtain ⟨b_14, hy_13⟩ := h_6
  replace hy_13 := hy_13.symm
  subst hy_13
  obtain ⟨f_15, hf_15, rfl⟩ := sOut_in3 b_14
  refine lv_aload_n hx hb dX7_ladleTemperature_5 rfl (lv_at hl 0 rfl) ?_
  refine gF_plant C hW_9 (hwc hwX7) (mc qw_287) dX7_ladleTemperature_6 ?_
  refine gP_ladlesN C hW_9 h0_11 (hwc hwX4) nw_5 dX7_ladleTemperature_9 ?_
  refine lv_iload_n hx hb dX7_ladleTemperature_12 rfl (lv_at hl 1 rfl) ?_
  refine g_lad C hW_9 h0_11 f_15 (nI_clamp (by omega)) (vp_in_nI hf_15 (by decide)) dX7_ladleTemperature_13 ?_
  refine g_tempN C hW_9 (ves_lad (G := G) h0_11 hf_15) (hwc hwX6) nw_3 dX7_ladleTemperature_14 ?_
  refine W.widen (k := 1) (n := 6) (by decide) (by decide) ?_
  refine vx_ret ?_
  exact g_iret C hr hlk hW_9 hS_10 dX7_ladleTemperature_17 (by exact ⟨⟨by simp only [oF_ladleTemperature, clf (show f_15 < 2 ^ 31 by omega), b_14, if_true, if_false], by simp only [oF_ladleTemperature, clf (show f_15 < 2 ^ 31 by omega), b_14, if_true, if_false]⟩, rfl⟩)

set_option maxHeartbeats 4000000 in
set_option maxRecDepth 100000 in
theorem cX7_pouringMinutes_ok (l : Launch) (G : GT) (hst : l.stackTraces = false) (X : St) (x : Int32) : MetXI l G 2 yX7_pouringMinutes (wsG yX7_pouringMinutes cX7_pouringMinutes 3 (some .int)) (rmk 2 7 121) [.ref (ad G 715), .int x] X (fun res Y => ((oF_pouringMinutes (X.1 0) x).1 = 0 ∧ res = (oF_pouringMinutes (X.1 0) x).2) ∧ Y = X) (fun E Y => exN ["java/lang/IndexOutOfBoundsException", "java/util/NoSuchElementException"] E (oF_pouringMinutes (X.1 0) x).1 ∧ Y = X) := by
  refine g_metX (cc := cX7_pouringMinutes) (maxL := 3) (ret := (some .int)) (by decide) rfl (Nat.le_of_ble_eq_true rfl) ?_
  intro p e s m below meth c ls C hr hlk hex hW hl
  have hx := C.1.1
  have hb := C.1.2.1
  have hS : va_S (Ab G) s.heap s.heap [] := va_S.rf
  have hl : lv_has ls 3 [(0, .ref (ad G 715)), (1, .int x)] := hl
  refine lv_iload_n hx hb dX7_pouringMinutes_0 rfl (lv_at hl 1 rfl) ?_
  refine lv_iconst (v := 3) hx hb dX7_pouringMinutes_1 (by decide) ?_
  refine g_cxv (vx_runS (As := [.int x, .int 3]) (rest := []) C.1 (cX7_requireIndex_ok l G hst X x 3) (va_cwS 2 C.1.2.2.2.2 (gS qw_1078 qw_1079 qw_71 qw_1080) rfl rfl rfl (by decide +kernel) ⟨Nat.le_of_ble_eq_true rfl, Nat.le_of_ble_eq_true rfl⟩) (g_pre C hW hS [.int x, .int 3]) rfl rfl hl.1 rfl (lv_room (Nat.le_of_ble_eq_true rfl)) dX7_pouringMinutes_2 ⟨by decide, by decide⟩) hS ?_ ?_
  · intro E9 ce9 q9 Y_2 H9 locs9 hW9 hS9 h_1 h91 h92 h93
    obtain ⟨⟨hE_5, b_4⟩, hy_3⟩ := h_1
    replace hy_3 := hy_3.symm
    subst hy_3
    subst hE_5
    exact g_out hex hlk hW9 hS9 (by exact ⟨⟨0, rfl, by simp only [oF_pouringMinutes, b_4, if_true, if_false]⟩, rfl⟩) h91 h92 h93 (by decide) (by decide)
  intro Y_7 H_11 locs_12 hW_9 hS_10 h_6
  obtain ⟨b_14, hy_13⟩ := h_6
  replace hy_13 := hy_13.symm
  subst hy_13
  obtain ⟨f_15, hf_15, rfl⟩ := sOut_in3 b_14
  refine lv_aload_n hx hb dX7_pouringMinutes_5 rfl (lv_at hl 0 rfl) ?_
  refine gF_plant C hW_9 (hwc hwX7) (mc qw_287) dX7_pouringMinutes_6 ?_
  refine gP_ladlesN C hW_9 h0_11 (hwc hwX4) nw_5 dX7_pouringMinutes_9 ?_
  refine lv_iload_n hx hb dX7_pouringMinutes_12 rfl (lv_at hl 1 rfl) ?_
  refine g_lad C hW_9 h0_11 f_15 (nI_clamp (by omega)) (vp_in_nI hf_15 (by decide)) dX7_pouringMinutes_13 ?_
  refine lv_astore_n (lv' := [(2, .ref (ad G (65 * 0 + (20 + 3 * f_15)))), (0, .ref (ad G 715)), (1, .int (nI f_15))]) hx hb dX7_pouringMinutes_14 rfl hl (by decide) rfl (fun ls_16 hl_17 => ?_)
  refine lv_aload_n hx hb dX7_pouringMinutes_15 rfl (lv_at hl_17 0 rfl) ?_
  refine g_calli (va_runV (As := []) (rest := []) C.1 (cX6_liquid_ok l G X (65 * 0 + (20 + 3 * f_15)) (65 * 0 + (21 + 3 * f_15)) (65 * 0 + (22 + 3 * f_15)) 0 (27 + 5 * f_15) 0 (ves_lad (G := G) h0_11 hf_15)) (cwV 0 C.1.2.2.2.2 (gV qw_1135 qw_356 qw_357 qw_74 qw_358) rfl rfl rfl (by decide +kernel) ⟨Nat.le_of_ble_eq_true rfl, Nat.le_of_ble_eq_true rfl⟩) (g_rVes C hW_9 hS_10 (ves_lad (G := G) h0_11 hf_15) []) rfl rfl hl_17.1 rfl (lv_room (Nat.le_of_ble_eq_true rfl)) dX7_pouringMinutes_16 ⟨by decide, by decide⟩) hS_10 (fun r_19 Y_20 H_21 locs_22 hW_23 hS_24 h_18 => ?_)
  obtain ⟨h_18, hy_25⟩ := h_18
  replace hy_25 := hy_25.symm
  subst hy_25
  subst h_18
  refine lv_if_ne (tgt := 30) hx hb dX7_pouringMinutes_19 (by decide) (fun b_26 => ?_) (fun b_26 => ?_)
  · refine lv_aload_n hx hb dX7_pouringMinutes_30 rfl (lv_at hl_17 0 rfl) ?_
    refine g_tempN C hW_23 (ves_lad (G := G) h0_11 hf_15) (hwc hwX6) nw_3 dX7_pouringMinutes_31 ?_
    refine lv_aload_n hx hb dX7_pouringMinutes_34 rfl (lv_at hl_17 0 rfl) ?_
    refine g_contentN C hW_23 (ves_lad (G := G) h0_11 hf_15) (hwc hwX6) nw_1 dX7_pouringMinutes_35 ?_
    refine g_calli (va_runV (As := []) (rest := [.int (X.1 0 (27 + 5 * f_15 + 4))]) C.1 (cX3_pointBySums_ok l G X (65 * 0 + (21 + 3 * f_15)) (65 * 0 + (22 + 3 * f_15)) 0 (27 + 5 * f_15) ((ves_lad (G := G) h0_11 hf_15).mix)) (cwV 0 C.1.2.2.2.2 (gV qw_1119 qw_342 qw_343 qw_73 qw_344) rfl rfl rfl (by decide +kernel) ⟨Nat.le_of_ble_eq_true rfl, Nat.le_of_ble_eq_true rfl⟩) (g_rMix C hW_23 hS_24 (ves_lad (G := G) h0_11 hf_15).mix []) rfl rfl hl_17.1 rfl (lv_room (Nat.le_of_ble_eq_true rfl)) dX7_pouringMinutes_38 ⟨by decide, by decide⟩) hS_24 (fun r_28 Y_29 H_30 locs_31 hW_32 hS_33 h_27 => ?_)
    obtain ⟨h_27, hy_34⟩ := h_27
    replace hy_34 := hy_34.symm
    subst hy_34
    subst h_27
    refine lv_isub hx hb dX7_pouringMinutes_41 ?_
    refine lv_bipush (v := 10) hx hb dX7_pouringMinutes_42 (by decide) ?_
    refine lv_idiv hx hb dX7_pouringMinutes_44 (by decide) ?_
    refine W.widen (k := 2) (n := 12) (by decide) (by decide) ?_
    refine vx_ret ?_
    exact g_iret C hr hlk hW_32 hS_33 dX7_pouringMinutes_45 (by exact ⟨⟨by simp only [oF_pouringMinutes, clf (show f_15 < 2 ^ 31 by omega), b_14, b_26, if_true, if_false], by simp only [oF_pouringMinutes, clf (show f_15 < 2 ^ 31 by omega), b_14, b_26, if_true, if_false]⟩, rfl⟩)
  · exact g_thr0 C hst (ik := 108) (ic := 110) (names := ["java/lang/RuntimeException", "java/lang/Exception"]) hex hlk hl_17.1 (by decide) (by decide) (mc qk_NSEE) (mc qi_NSEE) (fun w hw => mc (qg_NSEE w hw)) qn_NSEE nest_on qo_NSEE dX7_pouringMinutes_22 dX7_pouringMinutes_25 dX7_pouringMinutes_26 dX7_pouringMinutes_29 (Nat.le_of_ble_eq_true rfl) (Nat.le_of_ble_eq_true rfl) (by decide) (by decide) (by decide) (by decide) hW_23 hS_24 (by exact ⟨⟨1, rfl, by simp only [oF_pouringMinutes, clf (show f_15 < 2 ^ 31 by omega), b_14, b_26, if_true, if_false]⟩, rfl⟩)

set_option maxHeartbeats 4000000 in
set_option maxRecDepth 100000 in
theorem cX7_volume_ok (l : Launch) (G : GT) (hst : l.stackTraces = false) (X : St) (hi : PInv (X.1 0)) (x : Int32) : MetXI l G 1 yX7_volume (wsG yX7_volume cX7_volume 2 (some .int)) (rmk 1 7 121) [.ref (ad G 715), .int x] X (fun res Y => ((oF_volume (X.1 0) x).1 = 0 ∧ res = (oF_volume (X.1 0) x).2) ∧ Y = X) (fun E Y => exN ["java/lang/IndexOutOfBoundsException"] E (oF_volume (X.1 0) x).1 ∧ Y = X) := by
  refine g_metX (cc := cX7_volume) (maxL := 2) (ret := (some .int)) (by decide) rfl (Nat.le_of_ble_eq_true rfl) ?_
  intro p e s m below meth c ls C hr hlk hex hW hl
  have hx := C.1.1
  have hb := C.1.2.1
  have hS : va_S (Ab G) s.heap s.heap [] := va_S.rf
  have hl : lv_has ls 2 [(0, .ref (ad G 715)), (1, .int x)] := hl
  obtain ⟨⟨km, hkm, em⟩, ⟨ki, hki, ei⟩⟩ := hi
  refine lv_iload_n hx hb dX7_volume_0 rfl (lv_at hl 1 rfl) ?_
  refine lv_aload_n hx hb dX7_volume_1 rfl (lv_at hl 0 rfl) ?_
  refine gF_plant C hW (hwc hwX7) (mc qw_287) dX7_volume_2 ?_
  refine gP_mouldCountN C hW h0_11 (hwc hwX4) nw_6 dX7_volume_5 ?_
  refine g_top (y := nI km) em ?_
  refine g_cxv (vx_runS (As := [.int x, .int (nI km)]) (rest := []) C.1 (cX7_requireIndex_ok l G hst X x (nI km)) (va_cwS 2 C.1.2.2.2.2 (gS qw_1078 qw_1079 qw_71 qw_1080) rfl rfl rfl (by decide +kernel) ⟨Nat.le_of_ble_eq_true rfl, Nat.le_of_ble_eq_true rfl⟩) (g_pre C hW hS [.int x, .int (nI km)]) rfl rfl hl.1 rfl (lv_room (Nat.le_of_ble_eq_true rfl)) dX7_volume_8 ⟨by decide, by decide⟩) hS ?_ ?_
  · intro E9 ce9 q9 Y_2 H9 locs9 hW9 hS9 h_1 h91 h92 h93
    obtain ⟨⟨hE_5, b_4⟩, hy_3⟩ := h_1
    replace hy_3 := hy_3.symm
    subst hy_3
    subst hE_5
    exact g_out hex hlk hW9 hS9 (by exact ⟨⟨0, rfl, by simp only [oF_volume, b_4, em, ei, pk_us, clf (show km < 2 ^ 31 by omega), clf (show ki < 2 ^ 31 by omega), if_true, if_false]⟩, rfl⟩) h91 h92 h93 (by decide) (by decide)
  intro Y_7 H_11 locs_12 hW_9 hS_10 h_6
  obtain ⟨b_14, hy_13⟩ := h_6
  replace hy_13 := hy_13.symm
  subst hy_13
  obtain ⟨f_15, hf_15, rfl⟩ := sOut_in (n := km) (by omega) b_14
  refine lv_aload_n hx hb dX7_volume_11 rfl (lv_at hl 0 rfl) ?_
  refine gF_plant C hW_9 (hwc hwX7) (mc qw_287) dX7_volume_12 ?_
  refine gP_volumesN C hW_9 h0_11 (hwc hwX4) nw_7 dX7_volume_15 ?_
  refine lv_iload_n hx hb dX7_volume_18 rfl (lv_at hl 1 rfl) ?_
  refine g_volsld C hW_9 h0_11 f_15 (nI_clamp (by omega)) (vp_in_nI (show f_15 < 6 by omega) (by decide)) dX7_volume_19 ?_
  refine W.widen (k := 1) (n := 6) (by decide) (by decide) ?_
  refine vx_ret ?_
  exact g_iret C hr hlk hW_9 hS_10 dX7_volume_20 (by exact ⟨⟨by simp only [oF_volume, clf (show f_15 < 2 ^ 31 by omega), b_14, em, ei, pk_us, clf (show km < 2 ^ 31 by omega), clf (show ki < 2 ^ 31 by omega), if_true, if_false], by simp only [oF_volume, clf (show f_15 < 2 ^ 31 by omega), b_14, em, ei, pk_us, clf (show km < 2 ^ 31 by omega), clf (show ki < 2 ^ 31 by omega), if_true, if_false]⟩, rfl⟩)

set_option maxHeartbeats 4000000 in
set_option maxRecDepth 100000 in
theorem cX7_isFilled_ok (l : Launch) (G : GT) (hst : l.stackTraces = false) (X : St) (hi : PInv (X.1 0)) (x : Int32) : MetXI l G 1 yX7_isFilled (wsG yX7_isFilled cX7_isFilled 2 (some .boolean)) (rmk 1 7 121) [.ref (ad G 715), .int x] X (fun res Y => ((oF_isFilled (X.1 0) x).1 = 0 ∧ res = (oF_isFilled (X.1 0) x).2) ∧ Y = X) (fun E Y => exN ["java/lang/IndexOutOfBoundsException"] E (oF_isFilled (X.1 0) x).1 ∧ Y = X) := by
  refine g_metX (cc := cX7_isFilled) (maxL := 2) (ret := (some .boolean)) (by decide) rfl (Nat.le_of_ble_eq_true rfl) ?_
  intro p e s m below meth c ls C hr hlk hex hW hl
  have hx := C.1.1
  have hb := C.1.2.1
  have hS : va_S (Ab G) s.heap s.heap [] := va_S.rf
  have hl : lv_has ls 2 [(0, .ref (ad G 715)), (1, .int x)] := hl
  obtain ⟨⟨km, hkm, em⟩, ⟨ki, hki, ei⟩⟩ := hi
  refine lv_iload_n hx hb dX7_isFilled_0 rfl (lv_at hl 1 rfl) ?_
  refine lv_aload_n hx hb dX7_isFilled_1 rfl (lv_at hl 0 rfl) ?_
  refine gF_plant C hW (hwc hwX7) (mc qw_287) dX7_isFilled_2 ?_
  refine gP_mouldCountN C hW h0_11 (hwc hwX4) nw_6 dX7_isFilled_5 ?_
  refine g_top (y := nI km) em ?_
  refine g_cxv (vx_runS (As := [.int x, .int (nI km)]) (rest := []) C.1 (cX7_requireIndex_ok l G hst X x (nI km)) (va_cwS 2 C.1.2.2.2.2 (gS qw_1078 qw_1079 qw_71 qw_1080) rfl rfl rfl (by decide +kernel) ⟨Nat.le_of_ble_eq_true rfl, Nat.le_of_ble_eq_true rfl⟩) (g_pre C hW hS [.int x, .int (nI km)]) rfl rfl hl.1 rfl (lv_room (Nat.le_of_ble_eq_true rfl)) dX7_isFilled_8 ⟨by decide, by decide⟩) hS ?_ ?_
  · intro E9 ce9 q9 Y_2 H9 locs9 hW9 hS9 h_1 h91 h92 h93
    obtain ⟨⟨hE_5, b_4⟩, hy_3⟩ := h_1
    replace hy_3 := hy_3.symm
    subst hy_3
    subst hE_5
    exact g_out hex hlk hW9 hS9 (by exact ⟨⟨0, rfl, by simp only [oF_isFilled, b_4, em, ei, pk_us, clf (show km < 2 ^ 31 by omega), clf (show ki < 2 ^ 31 by omega), if_true, if_false]⟩, rfl⟩) h91 h92 h93 (by decide) (by decide)
  intro Y_7 H_11 locs_12 hW_9 hS_10 h_6
  obtain ⟨b_14, hy_13⟩ := h_6
  replace hy_13 := hy_13.symm
  subst hy_13
  obtain ⟨f_15, hf_15, rfl⟩ := sOut_in (n := km) (by omega) b_14
  refine lv_aload_n hx hb dX7_isFilled_11 rfl (lv_at hl 0 rfl) ?_
  refine gF_plant C hW_9 (hwc hwX7) (mc qw_287) dX7_isFilled_12 ?_
  refine gP_mouldsN C hW_9 h0_11 (hwc hwX4) nw_8 dX7_isFilled_15 ?_
  refine lv_iload_n hx hb dX7_isFilled_18 rfl (lv_at hl 1 rfl) ?_
  refine g_mou C hW_9 h0_11 f_15 (nI_clamp (by omega)) (vp_in_nI (show f_15 < 6 by omega) (by decide)) dX7_isFilled_19 ?_
  refine g_calli (va_runV (As := []) (rest := []) C.1 (cX3_sum_ok l G X (65 * 0 + (29 + 2 * f_15)) (65 * 0 + (30 + 2 * f_15)) 0 (44 + 6 * f_15) (mix_mou (G := G) h0_11 (show f_15 < 6 by omega))) (cwV 0 C.1.2.2.2.2 (gV qw_1093 qw_338 qw_339 qw_73 qw_340) rfl rfl rfl (by decide +kernel) ⟨Nat.le_of_ble_eq_true rfl, Nat.le_of_ble_eq_true rfl⟩) (g_rMix C hW_9 hS_10 (mix_mou (G := G) h0_11 (show f_15 < 6 by omega)) []) rfl rfl hl.1 rfl (lv_room (Nat.le_of_ble_eq_true rfl)) dX7_isFilled_20 ⟨by decide, by decide⟩) hS_10 (fun r_17 Y_18 H_19 locs_20 hW_21 hS_22 h_16 => ?_)
  obtain ⟨h_16, hy_23⟩ := h_16
  replace hy_23 := hy_23.symm
  subst hy_23
  subst h_16
  refine lv_if_le (tgt := 30) hx hb dX7_isFilled_23 (by decide) (fun b_24 => ?_) (fun b_24 => ?_)
  · refine lv_iconst (v := 0) hx hb dX7_isFilled_30 (by decide) ?_
    refine W.widen (k := 1) (n := 6) (by decide) (by decide) ?_
    refine vx_ret ?_
    exact g_zret C hr hlk hW_21 hS_22 dX7_isFilled_31 rfl (by exact ⟨⟨by simp only [oF_isFilled, clf (show f_15 < 2 ^ 31 by omega), b_14, b_24, em, ei, pk_us, clf (show km < 2 ^ 31 by omega), clf (show ki < 2 ^ 31 by omega), if_true, if_false], by simp only [oF_isFilled, clf (show f_15 < 2 ^ 31 by omega), b_14, b_24, em, ei, pk_us, clf (show km < 2 ^ 31 by omega), clf (show ki < 2 ^ 31 by omega), if_true, if_false]⟩, rfl⟩)
  · refine lv_iconst (v := 1) hx hb dX7_isFilled_26 (by decide) ?_
    refine lv_goto (tgt := 31) hx hb dX7_isFilled_27 (by decide) ?_
    refine W.widen (k := 1) (n := 6) (by decide) (by decide) ?_
    refine vx_ret ?_
    exact g_zret C hr hlk hW_21 hS_22 dX7_isFilled_31 rfl (by exact ⟨⟨by simp only [oF_isFilled, clf (show f_15 < 2 ^ 31 by omega), b_14, b_24, em, ei, pk_us, clf (show km < 2 ^ 31 by omega), clf (show ki < 2 ^ 31 by omega), if_true, if_false], by simp only [oF_isFilled, clf (show f_15 < 2 ^ 31 by omega), b_14, b_24, em, ei, pk_us, clf (show km < 2 ^ 31 by omega), clf (show ki < 2 ^ 31 by omega), if_true, if_false]⟩, rfl⟩)

set_option maxHeartbeats 4000000 in
set_option maxRecDepth 100000 in
theorem cX7_mouldMass_ok (l : Launch) (G : GT) (hst : l.stackTraces = false) (X : St) (hi : PInv (X.1 0)) (x y : Int32) : MetXI l G 2 yX7_mouldMass (wsG yX7_mouldMass cX7_mouldMass 3 (some .int)) (rmk 2 7 121) [.ref (ad G 715), .int x, .int y] X (fun res Y => ((oF_mouldMass (X.1 0) x y).1 = 0 ∧ res = (oF_mouldMass (X.1 0) x y).2) ∧ Y = X) (fun E Y => exN ["java/lang/IndexOutOfBoundsException", "java/lang/IllegalArgumentException"] E (oF_mouldMass (X.1 0) x y).1 ∧ Y = X) := by
  refine g_metX (cc := cX7_mouldMass) (maxL := 3) (ret := (some .int)) (by decide) rfl (Nat.le_of_ble_eq_true rfl) ?_
  intro p e s m below meth c ls C hr hlk hex hW hl
  have hx := C.1.1
  have hb := C.1.2.1
  have hS : va_S (Ab G) s.heap s.heap [] := va_S.rf
  have hl : lv_has ls 3 [(0, .ref (ad G 715)), (1, .int x), (2, .int y)] := hl
  obtain ⟨⟨km, hkm, em⟩, ⟨ki, hki, ei⟩⟩ := hi
  refine lv_iload_n hx hb dX7_mouldMass_0 rfl (lv_at hl 1 rfl) ?_
  refine lv_aload_n hx hb dX7_mouldMass_1 rfl (lv_at hl 0 rfl) ?_
  refine gF_plant C hW (hwc hwX7) (mc qw_287) dX7_mouldMass_2 ?_
  refine gP_mouldCountN C hW h0_11 (hwc hwX4) nw_6 dX7_mouldMass_5 ?_
  refine g_top (y := nI km) em ?_
  refine g_cxv (vx_runS (As := [.int x, .int (nI km)]) (rest := []) C.1 (cX7_requireIndex_ok l G hst X x (nI km)) (va_cwS 2 C.1.2.2.2.2 (gS qw_1078 qw_1079 qw_71 qw_1080) rfl rfl rfl (by decide +kernel) ⟨Nat.le_of_ble_eq_true rfl, Nat.le_of_ble_eq_true rfl⟩) (g_pre C hW hS [.int x, .int (nI km)]) rfl rfl hl.1 rfl (lv_room (Nat.le_of_ble_eq_true rfl)) dX7_mouldMass_8 ⟨by decide, by decide⟩) hS ?_ ?_
  · intro E9 ce9 q9 Y_2 H9 locs9 hW9 hS9 h_1 h91 h92 h93
    obtain ⟨⟨hE_5, b_4⟩, hy_3⟩ := h_1
    replace hy_3 := hy_3.symm
    subst hy_3
    subst hE_5
    exact g_out hex hlk hW9 hS9 (by exact ⟨⟨0, rfl, by simp only [oF_mouldMass, b_4, em, ei, pk_us, clf (show km < 2 ^ 31 by omega), clf (show ki < 2 ^ 31 by omega), if_true, if_false]⟩, rfl⟩) h91 h92 h93 (by decide) (by decide)
  intro Y_7 H_11 locs_12 hW_9 hS_10 h_6
  obtain ⟨b_14, hy_13⟩ := h_6
  replace hy_13 := hy_13.symm
  subst hy_13
  obtain ⟨f_15, hf_15, rfl⟩ := sOut_in (n := km) (by omega) b_14
  refine lv_aload_n hx hb dX7_mouldMass_11 rfl (lv_at hl 0 rfl) ?_
  refine gF_plant C hW_9 (hwc hwX7) (mc qw_287) dX7_mouldMass_12 ?_
  refine gP_mouldsN C hW_9 h0_11 (hwc hwX4) nw_8 dX7_mouldMass_15 ?_
  refine lv_iload_n hx hb dX7_mouldMass_18 rfl (lv_at hl 1 rfl) ?_
  refine g_mou C hW_9 h0_11 f_15 (nI_clamp (by omega)) (vp_in_nI (show f_15 < 6 by omega) (by decide)) dX7_mouldMass_19 ?_
  refine g_massesN C hW_9 (mix_mou (G := G) h0_11 (show f_15 < 6 by omega)) (hwc hwX3) nw_2 dX7_mouldMass_20 ?_
  refine lv_iload_n hx hb dX7_mouldMass_23 rfl (lv_at hl 2 rfl) ?_
  refine g_cxi (vx_runS (As := [.int y]) (rest := [.ref (ad G (65 * 0 + (30 + 2 * f_15)))]) C.1 (cX7_requireMaterial_ok l G hst X y) (va_cwS 1 C.1.2.2.2.2 (gS qw_1082 qw_1083 qw_71 qw_1084) rfl rfl rfl (by decide +kernel) ⟨Nat.le_of_ble_eq_true rfl, Nat.le_of_ble_eq_true rfl⟩) (g_pre C hW_9 hS_10 [.int y]) rfl rfl hl.1 rfl (lv_room (Nat.le_of_ble_eq_true rfl)) dX7_mouldMass_24 ⟨by decide, by decide⟩) hS_10 ?_ ?_
  · intro E9 ce9 q9 Y_17 H9 locs9 hW9 hS9 h_16 h91 h92 h93
    obtain ⟨⟨hE_20, b_19⟩, hy_18⟩ := h_16
    replace hy_18 := hy_18.symm
    subst hy_18
    subst hE_20
    exact g_out hex hlk hW9 hS9 (by exact ⟨⟨1, rfl, by simp only [oF_mouldMass, clf (show f_15 < 2 ^ 31 by omega), b_14, b_19, em, ei, pk_us, clf (show km < 2 ^ 31 by omega), clf (show ki < 2 ^ 31 by omega), if_true, if_false]⟩, rfl⟩) h91 h92 h93 (by decide) (by decide)
  intro r_23 Y_22 H_26 locs_27 hW_24 hS_25 h_21
  obtain ⟨⟨hr_30, b_29⟩, hy_28⟩ := h_21
  replace hy_28 := hy_28.symm
  subst hy_28
  obtain ⟨j_31, hj_31, hej_31⟩ := matOf_in rfl b_29
  rw [hej_31] at hr_30
  subst hr_30
  refine g_mld C hW_24 (mix_mou (G := G) h0_11 (show f_15 < 6 by omega)) j_31 (nI_clamp (by omega)) (vp_in_nI hj_31 (by decide)) dX7_mouldMass_27 ?_
  refine W.widen (k := 2) (n := 12) (by decide) (by decide) ?_
  refine vx_ret ?_
  exact g_iret C hr hlk hW_24 hS_25 dX7_mouldMass_28 (by exact ⟨⟨by simp only [oF_mouldMass, clf (show f_15 < 2 ^ 31 by omega), hej_31, clf (show j_31 < 2 ^ 31 by omega), show ¬ nI j_31 = -1 from hej_31 ▸ b_29, b_14, b_29, em, ei, pk_us, clf (show km < 2 ^ 31 by omega), clf (show ki < 2 ^ 31 by omega), if_true, if_false], by simp only [oF_mouldMass, clf (show f_15 < 2 ^ 31 by omega), hej_31, clf (show j_31 < 2 ^ 31 by omega), show ¬ nI j_31 = -1 from hej_31 ▸ b_29, b_14, b_29, em, ei, pk_us, clf (show km < 2 ^ 31 by omega), clf (show ki < 2 ^ 31 by omega), if_true, if_false]⟩, rfl⟩)

set_option maxHeartbeats 4000000 in
set_option maxRecDepth 100000 in
theorem cX7_ingotMass_ok (l : Launch) (G : GT) (hst : l.stackTraces = false) (X : St) (hi : PInv (X.1 0)) (x y : Int32) : MetXI l G 2 yX7_ingotMass (wsG yX7_ingotMass cX7_ingotMass 3 (some .int)) (rmk 2 7 121) [.ref (ad G 715), .int x, .int y] X (fun res Y => ((oF_ingotMass (X.1 0) x y).1 = 0 ∧ res = (oF_ingotMass (X.1 0) x y).2) ∧ Y = X) (fun E Y => exN ["java/lang/IndexOutOfBoundsException", "java/lang/IllegalArgumentException"] E (oF_ingotMass (X.1 0) x y).1 ∧ Y = X) := by
  refine g_metX (cc := cX7_ingotMass) (maxL := 3) (ret := (some .int)) (by decide) rfl (Nat.le_of_ble_eq_true rfl) ?_
  intro p e s m below meth c ls C hr hlk hex hW hl
  have hx := C.1.1
  have hb := C.1.2.1
  have hS : va_S (Ab G) s.heap s.heap [] := va_S.rf
  have hl : lv_has ls 3 [(0, .ref (ad G 715)), (1, .int x), (2, .int y)] := hl
  obtain ⟨⟨km, hkm, em⟩, ⟨ki, hki, ei⟩⟩ := hi
  refine lv_iload_n hx hb dX7_ingotMass_0 rfl (lv_at hl 1 rfl) ?_
  refine lv_aload_n hx hb dX7_ingotMass_1 rfl (lv_at hl 0 rfl) ?_
  refine gF_plant C hW (hwc hwX7) (mc qw_287) dX7_ingotMass_2 ?_
  refine gP_ingotCountN C hW h0_11 (hwc hwX4) nw_9 dX7_ingotMass_5 ?_
  refine g_top (y := nI ki) ei ?_
  refine g_cxv (vx_runS (As := [.int x, .int (nI ki)]) (rest := []) C.1 (cX7_requireIndex_ok l G hst X x (nI ki)) (va_cwS 2 C.1.2.2.2.2 (gS qw_1078 qw_1079 qw_71 qw_1080) rfl rfl rfl (by decide +kernel) ⟨Nat.le_of_ble_eq_true rfl, Nat.le_of_ble_eq_true rfl⟩) (g_pre C hW hS [.int x, .int (nI ki)]) rfl rfl hl.1 rfl (lv_room (Nat.le_of_ble_eq_true rfl)) dX7_ingotMass_8 ⟨by decide, by decide⟩) hS ?_ ?_
  · intro E9 ce9 q9 Y_2 H9 locs9 hW9 hS9 h_1 h91 h92 h93
    obtain ⟨⟨hE_5, b_4⟩, hy_3⟩ := h_1
    replace hy_3 := hy_3.symm
    subst hy_3
    subst hE_5
    exact g_out hex hlk hW9 hS9 (by exact ⟨⟨0, rfl, by simp only [oF_ingotMass, b_4, em, ei, pk_us, clf (show km < 2 ^ 31 by omega), clf (show ki < 2 ^ 31 by omega), if_true, if_false]⟩, rfl⟩) h91 h92 h93 (by decide) (by decide)
  intro Y_7 H_11 locs_12 hW_9 hS_10 h_6
  obtain ⟨b_14, hy_13⟩ := h_6
  replace hy_13 := hy_13.symm
  subst hy_13
  obtain ⟨f_15, hf_15, rfl⟩ := sOut_in (n := ki) (by omega) b_14
  refine lv_aload_n hx hb dX7_ingotMass_11 rfl (lv_at hl 0 rfl) ?_
  refine gF_plant C hW_9 (hwc hwX7) (mc qw_287) dX7_ingotMass_12 ?_
  refine gP_ingotsN C hW_9 h0_11 (hwc hwX4) nw_10 dX7_ingotMass_15 ?_
  refine lv_iload_n hx hb dX7_ingotMass_18 rfl (lv_at hl 1 rfl) ?_
  refine g_ing C hW_9 h0_11 f_15 (nI_clamp (by omega)) (vp_in_nI (show f_15 < 12 by omega) (by decide)) dX7_ingotMass_19 ?_
  refine g_massesN C hW_9 (mix_ing (G := G) h0_11 (show f_15 < 12 by omega)) (hwc hwX3) nw_2 dX7_ingotMass_20 ?_
  refine lv_iload_n hx hb dX7_ingotMass_23 rfl (lv_at hl 2 rfl) ?_
  refine g_cxi (vx_runS (As := [.int y]) (rest := [.ref (ad G (65 * 0 + (42 + 2 * f_15)))]) C.1 (cX7_requireMaterial_ok l G hst X y) (va_cwS 1 C.1.2.2.2.2 (gS qw_1082 qw_1083 qw_71 qw_1084) rfl rfl rfl (by decide +kernel) ⟨Nat.le_of_ble_eq_true rfl, Nat.le_of_ble_eq_true rfl⟩) (g_pre C hW_9 hS_10 [.int y]) rfl rfl hl.1 rfl (lv_room (Nat.le_of_ble_eq_true rfl)) dX7_ingotMass_24 ⟨by decide, by decide⟩) hS_10 ?_ ?_
  · intro E9 ce9 q9 Y_17 H9 locs9 hW9 hS9 h_16 h91 h92 h93
    obtain ⟨⟨hE_20, b_19⟩, hy_18⟩ := h_16
    replace hy_18 := hy_18.symm
    subst hy_18
    subst hE_20
    exact g_out hex hlk hW9 hS9 (by exact ⟨⟨1, rfl, by simp only [oF_ingotMass, clf (show f_15 < 2 ^ 31 by omega), b_14, b_19, em, ei, pk_us, clf (show km < 2 ^ 31 by omega), clf (show ki < 2 ^ 31 by omega), if_true, if_false]⟩, rfl⟩) h91 h92 h93 (by decide) (by decide)
  intro r_23 Y_22 H_26 locs_27 hW_24 hS_25 h_21
  obtain ⟨⟨hr_30, b_29⟩, hy_28⟩ := h_21
  replace hy_28 := hy_28.symm
  subst hy_28
  obtain ⟨j_31, hj_31, hej_31⟩ := matOf_in rfl b_29
  rw [hej_31] at hr_30
  subst hr_30
  refine g_mld C hW_24 (mix_ing (G := G) h0_11 (show f_15 < 12 by omega)) j_31 (nI_clamp (by omega)) (vp_in_nI hj_31 (by decide)) dX7_ingotMass_27 ?_
  refine W.widen (k := 2) (n := 12) (by decide) (by decide) ?_
  refine vx_ret ?_
  exact g_iret C hr hlk hW_24 hS_25 dX7_ingotMass_28 (by exact ⟨⟨by simp only [oF_ingotMass, clf (show f_15 < 2 ^ 31 by omega), hej_31, clf (show j_31 < 2 ^ 31 by omega), show ¬ nI j_31 = -1 from hej_31 ▸ b_29, b_14, b_29, em, ei, pk_us, clf (show km < 2 ^ 31 by omega), clf (show ki < 2 ^ 31 by omega), if_true, if_false], by simp only [oF_ingotMass, clf (show f_15 < 2 ^ 31 by omega), hej_31, clf (show j_31 < 2 ^ 31 by omega), show ¬ nI j_31 = -1 from hej_31 ▸ b_29, b_14, b_29, em, ei, pk_us, clf (show km < 2 ^ 31 by omega), clf (show ki < 2 ^ 31 by omega), if_true, if_false]⟩, rfl⟩)

set_option maxHeartbeats 4000000 in
set_option maxRecDepth 100000 in
theorem cX7_share_ok (l : Launch) (G : GT) (hst : l.stackTraces = false) (X : St) (hi : PInv (X.1 0)) (x y : Int32) : MetXI l G 2 yX7_share (wsG yX7_share cX7_share 3 (some .int)) (rmk 2 7 121) [.ref (ad G 715), .int x, .int y] X (fun res Y => ((oF_share (X.1 0) x y).1 = 0 ∧ res = (oF_share (X.1 0) x y).2) ∧ Y = X) (fun E Y => exN ["java/lang/IndexOutOfBoundsException", "java/lang/IllegalArgumentException"] E (oF_share (X.1 0) x y).1 ∧ Y = X) := by
  refine g_metX (cc := cX7_share) (maxL := 3) (ret := (some .int)) (by decide) rfl (Nat.le_of_ble_eq_true rfl) ?_
  intro p e s m below meth c ls C hr hlk hex hW hl
  have hx := C.1.1
  have hb := C.1.2.1
  have hS : va_S (Ab G) s.heap s.heap [] := va_S.rf
  have hl : lv_has ls 3 [(0, .ref (ad G 715)), (1, .int x), (2, .int y)] := hl
  obtain ⟨⟨km, hkm, em⟩, ⟨ki, hki, ei⟩⟩ := hi
  refine lv_iload_n hx hb dX7_share_0 rfl (lv_at hl 1 rfl) ?_
  refine lv_aload_n hx hb dX7_share_1 rfl (lv_at hl 0 rfl) ?_
  refine gF_plant C hW (hwc hwX7) (mc qw_287) dX7_share_2 ?_
  refine gP_ingotCountN C hW h0_11 (hwc hwX4) nw_9 dX7_share_5 ?_
  refine g_top (y := nI ki) ei ?_
  refine g_cxv (vx_runS (As := [.int x, .int (nI ki)]) (rest := []) C.1 (cX7_requireIndex_ok l G hst X x (nI ki)) (va_cwS 2 C.1.2.2.2.2 (gS qw_1078 qw_1079 qw_71 qw_1080) rfl rfl rfl (by decide +kernel) ⟨Nat.le_of_ble_eq_true rfl, Nat.le_of_ble_eq_true rfl⟩) (g_pre C hW hS [.int x, .int (nI ki)]) rfl rfl hl.1 rfl (lv_room (Nat.le_of_ble_eq_true rfl)) dX7_share_8 ⟨by decide, by decide⟩) hS ?_ ?_
  · intro E9 ce9 q9 Y_2 H9 locs9 hW9 hS9 h_1 h91 h92 h93
    obtain ⟨⟨hE_5, b_4⟩, hy_3⟩ := h_1
    replace hy_3 := hy_3.symm
    subst hy_3
    subst hE_5
    exact g_out hex hlk hW9 hS9 (by exact ⟨⟨0, rfl, by simp only [oF_share, b_4, em, ei, pk_us, clf (show km < 2 ^ 31 by omega), clf (show ki < 2 ^ 31 by omega), if_true, if_false]⟩, rfl⟩) h91 h92 h93 (by decide) (by decide)
  intro Y_7 H_11 locs_12 hW_9 hS_10 h_6
  obtain ⟨b_14, hy_13⟩ := h_6
  replace hy_13 := hy_13.symm
  subst hy_13
  obtain ⟨f_15, hf_15, rfl⟩ := sOut_in (n := ki) (by omega) b_14
  refine lv_aload_n hx hb dX7_share_11 rfl (lv_at hl 0 rfl) ?_
  refine gF_plant C hW_9 (hwc hwX7) (mc qw_287) dX7_share_12 ?_
  refine gP_ingotsN C hW_9 h0_11 (hwc hwX4) nw_10 dX7_share_15 ?_
  refine lv_iload_n hx hb dX7_share_18 rfl (lv_at hl 1 rfl) ?_
  refine g_ing C hW_9 h0_11 f_15 (nI_clamp (by omega)) (vp_in_nI (show f_15 < 12 by omega) (by decide)) dX7_share_19 ?_
  refine lv_iload_n hx hb dX7_share_20 rfl (lv_at hl 2 rfl) ?_
  refine g_cxi (vx_runS (As := [.int y]) (rest := [.ref (ad G (65 * 0 + (41 + 2 * f_15)))]) C.1 (cX7_requireMaterial_ok l G hst X y) (va_cwS 1 C.1.2.2.2.2 (gS qw_1082 qw_1083 qw_71 qw_1084) rfl rfl rfl (by decide +kernel) ⟨Nat.le_of_ble_eq_true rfl, Nat.le_of_ble_eq_true rfl⟩) (g_pre C hW_9 hS_10 [.int y]) rfl rfl hl.1 rfl (lv_room (Nat.le_of_ble_eq_true rfl)) dX7_share_21 ⟨by decide, by decide⟩) hS_10 ?_ ?_
  · intro E9 ce9 q9 Y_17 H9 locs9 hW9 hS9 h_16 h91 h92 h93
    obtain ⟨⟨hE_20, b_19⟩, hy_18⟩ := h_16
    replace hy_18 := hy_18.symm
    subst hy_18
    subst hE_20
    exact g_out hex hlk hW9 hS9 (by exact ⟨⟨1, rfl, by simp only [oF_share, clf (show f_15 < 2 ^ 31 by omega), b_14, b_19, em, ei, pk_us, clf (show km < 2 ^ 31 by omega), clf (show ki < 2 ^ 31 by omega), if_true, if_false]⟩, rfl⟩) h91 h92 h93 (by decide) (by decide)
  intro r_23 Y_22 H_26 locs_27 hW_24 hS_25 h_21
  obtain ⟨⟨hr_30, b_29⟩, hy_28⟩ := h_21
  replace hy_28 := hy_28.symm
  subst hy_28
  obtain ⟨j_31, hj_31, hej_31⟩ := matOf_in rfl b_29
  rw [hej_31] at hr_30
  subst hr_30
  refine g_calli (va_runV (As := [.int (nI j_31)]) (rest := []) C.1 (cX3_thousandths_ok l G X (65 * 0 + (41 + 2 * f_15)) (65 * 0 + (42 + 2 * f_15)) 0 (80 + 4 * f_15) (mix_ing (G := G) h0_11 (show f_15 < 12 by omega)) j_31 hj_31) (cwV 1 C.1.2.2.2.2 (gV qw_1235 qw_741 qw_742 qw_73 qw_743) rfl rfl rfl (by decide +kernel) ⟨Nat.le_of_ble_eq_true rfl, Nat.le_of_ble_eq_true rfl⟩) (g_rMix C hW_24 hS_25 (mix_ing (G := G) h0_11 (show f_15 < 12 by omega)) [.int (nI j_31)]) rfl rfl hl.1 rfl (lv_room (Nat.le_of_ble_eq_true rfl)) dX7_share_24 ⟨by decide, by decide⟩) hS_25 (fun r_33 Y_34 H_35 locs_36 hW_37 hS_38 h_32 => ?_)
  obtain ⟨h_32, hy_39⟩ := h_32
  replace hy_39 := hy_39.symm
  subst hy_39
  subst h_32
  refine W.widen (k := 2) (n := 12) (by decide) (by decide) ?_
  refine vx_ret ?_
  exact g_iret C hr hlk hW_37 hS_38 dX7_share_27 (by exact ⟨⟨by simp only [oF_share, clf (show f_15 < 2 ^ 31 by omega), hej_31, clf (show j_31 < 2 ^ 31 by omega), show ¬ nI j_31 = -1 from hej_31 ▸ b_29, b_14, b_29, em, ei, pk_us, clf (show km < 2 ^ 31 by omega), clf (show ki < 2 ^ 31 by omega), if_true, if_false], by simp only [oF_share, clf (show f_15 < 2 ^ 31 by omega), hej_31, clf (show j_31 < 2 ^ 31 by omega), show ¬ nI j_31 = -1 from hej_31 ▸ b_29, b_14, b_29, em, ei, pk_us, clf (show km < 2 ^ 31 by omega), clf (show ki < 2 ^ 31 by omega), if_true, if_false]⟩, rfl⟩)

set_option maxHeartbeats 4000000 in
set_option maxRecDepth 100000 in
theorem cX7_grade_ok (l : Launch) (G : GT) (hst : l.stackTraces = false) (X : St) (hi : PInv (X.1 0)) (x : Int32) : MetXI l G 1 yX7_grade (wsG yX7_grade cX7_grade 2 (some .char)) (rmk 1 7 121) [.ref (ad G 715), .int x] X (fun res Y => ((oF_grade (X.1 0) x).1 = 0 ∧ res = (oF_grade (X.1 0) x).2) ∧ Y = X) (fun E Y => exN ["java/lang/IndexOutOfBoundsException"] E (oF_grade (X.1 0) x).1 ∧ Y = X) := by
  refine g_metX (cc := cX7_grade) (maxL := 2) (ret := (some .char)) (by decide) rfl (Nat.le_of_ble_eq_true rfl) ?_
  intro p e s m below meth c ls C hr hlk hex hW hl
  have hx := C.1.1
  have hb := C.1.2.1
  have hS : va_S (Ab G) s.heap s.heap [] := va_S.rf
  have hl : lv_has ls 2 [(0, .ref (ad G 715)), (1, .int x)] := hl
  obtain ⟨⟨km, hkm, em⟩, ⟨ki, hki, ei⟩⟩ := hi
  refine lv_iload_n hx hb dX7_grade_0 rfl (lv_at hl 1 rfl) ?_
  refine lv_aload_n hx hb dX7_grade_1 rfl (lv_at hl 0 rfl) ?_
  refine gF_plant C hW (hwc hwX7) (mc qw_287) dX7_grade_2 ?_
  refine gP_ingotCountN C hW h0_11 (hwc hwX4) nw_9 dX7_grade_5 ?_
  refine g_top (y := nI ki) ei ?_
  refine g_cxv (vx_runS (As := [.int x, .int (nI ki)]) (rest := []) C.1 (cX7_requireIndex_ok l G hst X x (nI ki)) (va_cwS 2 C.1.2.2.2.2 (gS qw_1078 qw_1079 qw_71 qw_1080) rfl rfl rfl (by decide +kernel) ⟨Nat.le_of_ble_eq_true rfl, Nat.le_of_ble_eq_true rfl⟩) (g_pre C hW hS [.int x, .int (nI ki)]) rfl rfl hl.1 rfl (lv_room (Nat.le_of_ble_eq_true rfl)) dX7_grade_8 ⟨by decide, by decide⟩) hS ?_ ?_
  · intro E9 ce9 q9 Y_2 H9 locs9 hW9 hS9 h_1 h91 h92 h93
    obtain ⟨⟨hE_5, b_4⟩, hy_3⟩ := h_1
    replace hy_3 := hy_3.symm
    subst hy_3
    subst hE_5
    exact g_out hex hlk hW9 hS9 (by exact ⟨⟨0, rfl, by simp only [oF_grade, b_4, em, ei, pk_us, clf (show km < 2 ^ 31 by omega), clf (show ki < 2 ^ 31 by omega), if_true, if_false]⟩, rfl⟩) h91 h92 h93 (by decide) (by decide)
  intro Y_7 H_11 locs_12 hW_9 hS_10 h_6
  obtain ⟨b_14, hy_13⟩ := h_6
  replace hy_13 := hy_13.symm
  subst hy_13
  obtain ⟨f_15, hf_15, rfl⟩ := sOut_in (n := ki) (by omega) b_14
  refine lv_aload_n hx hb dX7_grade_11 rfl (lv_at hl 0 rfl) ?_
  refine gF_plant C hW_9 (hwc hwX7) (mc qw_287) dX7_grade_12 ?_
  refine gP_ingotsN C hW_9 h0_11 (hwc hwX4) nw_10 dX7_grade_15 ?_
  refine lv_iload_n hx hb dX7_grade_18 rfl (lv_at hl 1 rfl) ?_
  refine g_ing C hW_9 h0_11 f_15 (nI_clamp (by omega)) (vp_in_nI (show f_15 < 12 by omega) (by decide)) dX7_grade_19 ?_
  refine g_calli (va_runV (As := []) (rest := []) C.1 (cX3_quality_ok l G X (65 * 0 + (41 + 2 * f_15)) (65 * 0 + (42 + 2 * f_15)) 0 (80 + 4 * f_15) (mix_ing (G := G) h0_11 (show f_15 < 12 by omega))) (cwV 0 C.1.2.2.2.2 (gV qw_736 qw_737 qw_738 qw_73 qw_739) rfl rfl rfl (by decide +kernel) ⟨Nat.le_of_ble_eq_true rfl, Nat.le_of_ble_eq_true rfl⟩) (g_rMix C hW_9 hS_10 (mix_ing (G := G) h0_11 (show f_15 < 12 by omega)) []) rfl rfl hl.1 rfl (lv_room (Nat.le_of_ble_eq_true rfl)) dX7_grade_20 ⟨by decide, by decide⟩) hS_10 (fun r_17 Y_18 H_19 locs_20 hW_21 hS_22 h_16 => ?_)
  obtain ⟨h_16, hy_23⟩ := h_16
  replace hy_23 := hy_23.symm
  subst hy_23
  subst h_16
  refine W.widen (k := 1) (n := 6) (by decide) (by decide) ?_
  refine vx_ret ?_
  exact g_zret C hr hlk hW_21 hS_22 dX7_grade_23 (nar_grade _ _) (by exact ⟨⟨by simp only [oF_grade, clf (show f_15 < 2 ^ 31 by omega), b_14, em, ei, pk_us, clf (show km < 2 ^ 31 by omega), clf (show ki < 2 ^ 31 by omega), if_true, if_false], by simp only [oF_grade, clf (show f_15 < 2 ^ 31 by omega), b_14, em, ei, pk_us, clf (show km < 2 ^ 31 by omega), clf (show ki < 2 ^ 31 by omega), if_true, if_false]⟩, rfl⟩)

set_option maxHeartbeats 4000000 in
set_option maxRecDepth 100000 in
theorem cX7_charged_ok (l : Launch) (G : GT) (hst : l.stackTraces = false) (X : St) (y : Int32) : MetXI l G 1 yX7_charged (wsG yX7_charged cX7_charged 2 (some .int)) (rmk 1 7 121) [.ref (ad G 715), .int y] X (fun res Y => ((oF_charged (X.1 0) y).1 = 0 ∧ res = (oF_charged (X.1 0) y).2) ∧ Y = X) (fun E Y => exN ["java/lang/IllegalArgumentException"] E (oF_charged (X.1 0) y).1 ∧ Y = X) := by
  refine g_metX (cc := cX7_charged) (maxL := 2) (ret := (some .int)) (by decide) rfl (Nat.le_of_ble_eq_true rfl) ?_
  intro p e s m below meth c ls C hr hlk hex hW hl
  have hx := C.1.1
  have hb := C.1.2.1
  have hS : va_S (Ab G) s.heap s.heap [] := va_S.rf
  have hl : lv_has ls 2 [(0, .ref (ad G 715)), (1, .int y)] := hl
  refine lv_aload_n hx hb dX7_charged_0 rfl (lv_at hl 0 rfl) ?_
  refine gF_plant C hW (hwc hwX7) (mc qw_287) dX7_charged_1 ?_
  refine gP_chargedSoFarN C hW h0_11 (hwc hwX4) nw_12 dX7_charged_4 ?_
  refine g_massesN C hW (mix_chg h0_11) (hwc hwX3) nw_2 dX7_charged_7 ?_
  refine lv_iload_n hx hb dX7_charged_10 rfl (lv_at hl 1 rfl) ?_
  refine g_cxi (vx_runS (As := [.int y]) (rest := [.ref (ad G (65 * 0 + 8))]) C.1 (cX7_requireMaterial_ok l G hst X y) (va_cwS 1 C.1.2.2.2.2 (gS qw_1082 qw_1083 qw_71 qw_1084) rfl rfl rfl (by decide +kernel) ⟨Nat.le_of_ble_eq_true rfl, Nat.le_of_ble_eq_true rfl⟩) (g_pre C hW hS [.int y]) rfl rfl hl.1 rfl (lv_room (Nat.le_of_ble_eq_true rfl)) dX7_charged_11 ⟨by decide, by decide⟩) hS ?_ ?_
  · intro E9 ce9 q9 Y_2 H9 locs9 hW9 hS9 h_1 h91 h92 h93
    obtain ⟨⟨hE_5, b_4⟩, hy_3⟩ := h_1
    replace hy_3 := hy_3.symm
    subst hy_3
    subst hE_5
    exact g_out hex hlk hW9 hS9 (by exact ⟨⟨0, rfl, by simp only [oF_charged, b_4, if_true, if_false]⟩, rfl⟩) h91 h92 h93 (by decide) (by decide)
  intro r_8 Y_7 H_11 locs_12 hW_9 hS_10 h_6
  obtain ⟨⟨hr_15, b_14⟩, hy_13⟩ := h_6
  replace hy_13 := hy_13.symm
  subst hy_13
  obtain ⟨j_16, hj_16, hej_16⟩ := matOf_in rfl b_14
  rw [hej_16] at hr_15
  subst hr_15
  refine g_mld C hW_9 (mix_chg h0_11) j_16 (nI_clamp (by omega)) (vp_in_nI hj_16 (by decide)) dX7_charged_14 ?_
  refine W.widen (k := 1) (n := 6) (by decide) (by decide) ?_
  refine vx_ret ?_
  exact g_iret C hr hlk hW_9 hS_10 dX7_charged_15 (by exact ⟨⟨by simp only [oF_charged, hej_16, clf (show j_16 < 2 ^ 31 by omega), show ¬ nI j_16 = -1 from hej_16 ▸ b_14, b_14, if_true, if_false], by simp only [oF_charged, hej_16, clf (show j_16 < 2 ^ 31 by omega), show ¬ nI j_16 = -1 from hej_16 ▸ b_14, b_14, if_true, if_false]⟩, rfl⟩)

set_option maxHeartbeats 4000000 in
set_option maxRecDepth 100000 in
theorem cX7_slag_ok (l : Launch) (G : GT) (hst : l.stackTraces = false) (X : St) (y : Int32) : MetXI l G 1 yX7_slag (wsG yX7_slag cX7_slag 2 (some .int)) (rmk 1 7 121) [.ref (ad G 715), .int y] X (fun res Y => ((oF_slag (X.1 0) y).1 = 0 ∧ res = (oF_slag (X.1 0) y).2) ∧ Y = X) (fun E Y => exN ["java/lang/IllegalArgumentException"] E (oF_slag (X.1 0) y).1 ∧ Y = X) := by
  refine g_metX (cc := cX7_slag) (maxL := 2) (ret := (some .int)) (by decide) rfl (Nat.le_of_ble_eq_true rfl) ?_
  intro p e s m below meth c ls C hr hlk hex hW hl
  have hx := C.1.1
  have hb := C.1.2.1
  have hS : va_S (Ab G) s.heap s.heap [] := va_S.rf
  have hl : lv_has ls 2 [(0, .ref (ad G 715)), (1, .int y)] := hl
  refine lv_aload_n hx hb dX7_slag_0 rfl (lv_at hl 0 rfl) ?_
  refine gF_plant C hW (hwc hwX7) (mc qw_287) dX7_slag_1 ?_
  refine gP_slagSoFarN C hW h0_11 (hwc hwX4) nw_13 dX7_slag_4 ?_
  refine g_massesN C hW (mix_slag h0_11) (hwc hwX3) nw_2 dX7_slag_7 ?_
  refine lv_iload_n hx hb dX7_slag_10 rfl (lv_at hl 1 rfl) ?_
  refine g_cxi (vx_runS (As := [.int y]) (rest := [.ref (ad G (65 * 0 + 10))]) C.1 (cX7_requireMaterial_ok l G hst X y) (va_cwS 1 C.1.2.2.2.2 (gS qw_1082 qw_1083 qw_71 qw_1084) rfl rfl rfl (by decide +kernel) ⟨Nat.le_of_ble_eq_true rfl, Nat.le_of_ble_eq_true rfl⟩) (g_pre C hW hS [.int y]) rfl rfl hl.1 rfl (lv_room (Nat.le_of_ble_eq_true rfl)) dX7_slag_11 ⟨by decide, by decide⟩) hS ?_ ?_
  · intro E9 ce9 q9 Y_2 H9 locs9 hW9 hS9 h_1 h91 h92 h93
    obtain ⟨⟨hE_5, b_4⟩, hy_3⟩ := h_1
    replace hy_3 := hy_3.symm
    subst hy_3
    subst hE_5
    exact g_out hex hlk hW9 hS9 (by exact ⟨⟨0, rfl, by simp only [oF_slag, b_4, if_true, if_false]⟩, rfl⟩) h91 h92 h93 (by decide) (by decide)
  intro r_8 Y_7 H_11 locs_12 hW_9 hS_10 h_6
  obtain ⟨⟨hr_15, b_14⟩, hy_13⟩ := h_6
  replace hy_13 := hy_13.symm
  subst hy_13
  obtain ⟨j_16, hj_16, hej_16⟩ := matOf_in rfl b_14
  rw [hej_16] at hr_15
  subst hr_15
  refine g_mld C hW_9 (mix_slag h0_11) j_16 (nI_clamp (by omega)) (vp_in_nI hj_16 (by decide)) dX7_slag_14 ?_
  refine W.widen (k := 1) (n := 6) (by decide) (by decide) ?_
  refine vx_ret ?_
  exact g_iret C hr hlk hW_9 hS_10 dX7_slag_15 (by exact ⟨⟨by simp only [oF_slag, hej_16, clf (show j_16 < 2 ^ 31 by omega), show ¬ nI j_16 = -1 from hej_16 ▸ b_14, b_14, if_true, if_false], by simp only [oF_slag, hej_16, clf (show j_16 < 2 ^ 31 by omega), show ¬ nI j_16 = -1 from hej_16 ▸ b_14, b_14, if_true, if_false]⟩, rfl⟩)

set_option maxHeartbeats 4000000 in
set_option maxRecDepth 100000 in
theorem cX7_stock_ok (l : Launch) (G : GT) (hst : l.stackTraces = false) (X : St) (hi : PInv (X.1 0)) (y : Int32) : MetXI l G 1 yX7_stock (wsG yX7_stock cX7_stock 2 (some .int)) (rmk 1 7 121) [.ref (ad G 715), .int y] X (fun res Y => ((oF_stock (X.1 0) y).1 = 0 ∧ res = (oF_stock (X.1 0) y).2) ∧ Y = X) (fun E Y => exN ["java/lang/IllegalArgumentException"] E (oF_stock (X.1 0) y).1 ∧ Y = X) := by
  refine g_metX (cc := cX7_stock) (maxL := 2) (ret := (some .int)) (by decide) rfl (Nat.le_of_ble_eq_true rfl) ?_
  intro p e s m below meth c ls C hr hlk hex hW hl
  have hx := C.1.1
  have hb := C.1.2.1
  have hS : va_S (Ab G) s.heap s.heap [] := va_S.rf
  have hl : lv_has ls 2 [(0, .ref (ad G 715)), (1, .int y)] := hl
  obtain ⟨⟨km, hkm, em⟩, ⟨ki, hki, ei⟩⟩ := hi
  refine lv_aload_n hx hb dX7_stock_0 rfl (lv_at hl 0 rfl) ?_
  refine gF_plant C hW (hwc hwX7) (mc qw_287) dX7_stock_1 ?_
  refine lv_iload_n hx hb dX7_stock_4 rfl (lv_at hl 1 rfl) ?_
  refine g_cxi (vx_runS (As := [.int y]) (rest := [.ref (ad G 0)]) C.1 (cX7_requireMaterial_ok l G hst X y) (va_cwS 1 C.1.2.2.2.2 (gS qw_1082 qw_1083 qw_71 qw_1084) rfl rfl rfl (by decide +kernel) ⟨Nat.le_of_ble_eq_true rfl, Nat.le_of_ble_eq_true rfl⟩) (g_pre C hW hS [.int y]) rfl rfl hl.1 rfl (lv_room (Nat.le_of_ble_eq_true rfl)) dX7_stock_5 ⟨by decide, by decide⟩) hS ?_ ?_
  · intro E9 ce9 q9 Y_2 H9 locs9 hW9 hS9 h_1 h91 h92 h93
    obtain ⟨⟨hE_5, b_4⟩, hy_3⟩ := h_1
    replace hy_3 := hy_3.symm
    subst hy_3
    subst hE_5
    exact g_out hex hlk hW9 hS9 (by exact ⟨⟨0, rfl, by simp only [oF_stock, b_4, em, ei, pk_us, clf (show km < 2 ^ 31 by omega), clf (show ki < 2 ^ 31 by omega), if_true, if_false]⟩, rfl⟩) h91 h92 h93 (by decide) (by decide)
  intro r_8 Y_7 H_11 locs_12 hW_9 hS_10 h_6
  obtain ⟨⟨hr_15, b_14⟩, hy_13⟩ := h_6
  replace hy_13 := hy_13.symm
  subst hy_13
  obtain ⟨j_16, hj_16, hej_16⟩ := matOf_in rfl b_14
  rw [hej_16] at hr_15
  subst hr_15
  refine g_calli (va_runV (As := [.int (nI j_16)]) (rest := []) C.1 (cX4_stockInPlaces_ok l G X 0 h0_11 (⟨⟨km, hkm, em⟩, ⟨ki, hki, ei⟩⟩) j_16 hj_16) (cwV 1 C.1.2.2.2.2 (gV qw_377 qw_378 qw_379 qw_72 qw_380) rfl rfl rfl (by decide +kernel) ⟨Nat.le_of_ble_eq_true rfl, Nat.le_of_ble_eq_true rfl⟩) (g_rPlant C hW_9 hS_10 h0_11 [.int (nI j_16)]) rfl rfl hl.1 rfl (lv_room (Nat.le_of_ble_eq_true rfl)) dX7_stock_8 ⟨by decide, by decide⟩) hS_10 (fun r_18 Y_19 H_20 locs_21 hW_22 hS_23 h_17 => ?_)
  obtain ⟨h_17, hy_24⟩ := h_17
  replace hy_24 := hy_24.symm
  subst hy_24
  subst h_17
  refine W.widen (k := 1) (n := 6) (by decide) (by decide) ?_
  refine vx_ret ?_
  exact g_iret C hr hlk hW_22 hS_23 dX7_stock_11 (by exact ⟨⟨by simp only [oF_stock, hej_16, clf (show j_16 < 2 ^ 31 by omega), show ¬ nI j_16 = -1 from hej_16 ▸ b_14, b_14, em, ei, pk_us, clf (show km < 2 ^ 31 by omega), clf (show ki < 2 ^ 31 by omega), if_true, if_false], by simp only [oF_stock, hej_16, clf (show j_16 < 2 ^ 31 by omega), show ¬ nI j_16 = -1 from hej_16 ▸ b_14, b_14, em, ei, pk_us, clf (show km < 2 ^ 31 by omega), clf (show ki < 2 ^ 31 by omega), if_true, if_false]⟩, rfl⟩)

set_option maxHeartbeats 4000000 in
set_option maxRecDepth 100000 in
theorem cX7_stockByAccounts_ok (l : Launch) (G : GT) (hst : l.stackTraces = false) (X : St) (y : Int32) : MetXI l G 1 yX7_stockByAccounts (wsG yX7_stockByAccounts cX7_stockByAccounts 2 (some .int)) (rmk 1 7 121) [.ref (ad G 715), .int y] X (fun res Y => ((oF_stockByAccounts (X.1 0) y).1 = 0 ∧ res = (oF_stockByAccounts (X.1 0) y).2) ∧ Y = X) (fun E Y => exN ["java/lang/IllegalArgumentException"] E (oF_stockByAccounts (X.1 0) y).1 ∧ Y = X) := by
  refine g_metX (cc := cX7_stockByAccounts) (maxL := 2) (ret := (some .int)) (by decide) rfl (Nat.le_of_ble_eq_true rfl) ?_
  intro p e s m below meth c ls C hr hlk hex hW hl
  have hx := C.1.1
  have hb := C.1.2.1
  have hS : va_S (Ab G) s.heap s.heap [] := va_S.rf
  have hl : lv_has ls 2 [(0, .ref (ad G 715)), (1, .int y)] := hl
  refine lv_aload_n hx hb dX7_stockByAccounts_0 rfl (lv_at hl 0 rfl) ?_
  refine gF_plant C hW (hwc hwX7) (mc qw_287) dX7_stockByAccounts_1 ?_
  refine lv_iload_n hx hb dX7_stockByAccounts_4 rfl (lv_at hl 1 rfl) ?_
  refine g_cxi (vx_runS (As := [.int y]) (rest := [.ref (ad G 0)]) C.1 (cX7_requireMaterial_ok l G hst X y) (va_cwS 1 C.1.2.2.2.2 (gS qw_1082 qw_1083 qw_71 qw_1084) rfl rfl rfl (by decide +kernel) ⟨Nat.le_of_ble_eq_true rfl, Nat.le_of_ble_eq_true rfl⟩) (g_pre C hW hS [.int y]) rfl rfl hl.1 rfl (lv_room (Nat.le_of_ble_eq_true rfl)) dX7_stockByAccounts_5 ⟨by decide, by decide⟩) hS ?_ ?_
  · intro E9 ce9 q9 Y_2 H9 locs9 hW9 hS9 h_1 h91 h92 h93
    obtain ⟨⟨hE_5, b_4⟩, hy_3⟩ := h_1
    replace hy_3 := hy_3.symm
    subst hy_3
    subst hE_5
    exact g_out hex hlk hW9 hS9 (by exact ⟨⟨0, rfl, by simp only [oF_stockByAccounts, b_4, if_true, if_false]⟩, rfl⟩) h91 h92 h93 (by decide) (by decide)
  intro r_8 Y_7 H_11 locs_12 hW_9 hS_10 h_6
  obtain ⟨⟨hr_15, b_14⟩, hy_13⟩ := h_6
  replace hy_13 := hy_13.symm
  subst hy_13
  obtain ⟨j_16, hj_16, hej_16⟩ := matOf_in rfl b_14
  rw [hej_16] at hr_15
  subst hr_15
  refine g_calli (va_runV (As := [.int (nI j_16)]) (rest := []) C.1 (cX4_stockInAccounts_ok l G X 0 h0_11 j_16 hj_16) (cwV 1 C.1.2.2.2.2 (gV qw_381 qw_382 qw_383 qw_72 qw_384) rfl rfl rfl (by decide +kernel) ⟨Nat.le_of_ble_eq_true rfl, Nat.le_of_ble_eq_true rfl⟩) (g_rPlant C hW_9 hS_10 h0_11 [.int (nI j_16)]) rfl rfl hl.1 rfl (lv_room (Nat.le_of_ble_eq_true rfl)) dX7_stockByAccounts_8 ⟨by decide, by decide⟩) hS_10 (fun r_18 Y_19 H_20 locs_21 hW_22 hS_23 h_17 => ?_)
  obtain ⟨h_17, hy_24⟩ := h_17
  replace hy_24 := hy_24.symm
  subst hy_24
  subst h_17
  refine W.widen (k := 1) (n := 6) (by decide) (by decide) ?_
  refine vx_ret ?_
  exact g_iret C hr hlk hW_22 hS_23 dX7_stockByAccounts_11 (by exact ⟨⟨by simp only [oF_stockByAccounts, hej_16, clf (show j_16 < 2 ^ 31 by omega), show ¬ nI j_16 = -1 from hej_16 ▸ b_14, b_14, if_true, if_false], by simp only [oF_stockByAccounts, hej_16, clf (show j_16 < 2 ^ 31 by omega), show ¬ nI j_16 = -1 from hej_16 ▸ b_14, b_14, if_true, if_false]⟩, rfl⟩)

set_option maxHeartbeats 4000000 in
set_option maxRecDepth 100000 in
theorem cX7_furnaceByTemperature_ok (l : Launch) (G : GT) (hst : l.stackTraces = false) (X : St) (x : Int32) : MetXI l G 1 yX7_furnaceByTemperature (wsG yX7_furnaceByTemperature cX7_furnaceByTemperature 3 (some .int)) (rmk 1 6 100) [.ref (ad G 715), .int x] X (fun res Y => ((oF_furnaceByTemperature (X.1 0) x).1 = 0 ∧ res = (oF_furnaceByTemperature (X.1 0) x).2) ∧ Y = X) (fun E Y => exN ["java/util/NoSuchElementException"] E (oF_furnaceByTemperature (X.1 0) x).1 ∧ Y = X) := by
  refine g_metX (cc := cX7_furnaceByTemperature) (maxL := 3) (ret := (some .int)) (by decide) rfl (Nat.le_of_ble_eq_true rfl) ?_
  intro p e s m below meth c ls C hr hlk hex hW hl
  have hx := C.1.1
  have hb := C.1.2.1
  have hS : va_S (Ab G) s.heap s.heap [] := va_S.rf
  have hl : lv_has ls 3 [(0, .ref (ad G 715)), (1, .int x)] := hl
  refine lv_iconst (v := 0) hx hb dX7_furnaceByTemperature_0 (by decide) ?_
  refine lv_istore_n (lv' := [(2, .int 0), (0, .ref (ad G 715)), (1, .int x)]) hx hb dX7_furnaceByTemperature_1 rfl hl (by decide) rfl (fun ls_1 hl_2 => ?_)
  refine lv_iload_n hx hb dX7_furnaceByTemperature_2 rfl (lv_at hl_2 0 rfl) ?_
  refine lv_iconst (v := 3) hx hb dX7_furnaceByTemperature_3 (by decide) ?_
  refine lv_icmp_ge (tgt := 27) hx hb dX7_furnaceByTemperature_4 (by decide) (fun h9 => absurd h9 (by decide)) (fun _ => ?_)
  refine lv_aload_n hx hb dX7_furnaceByTemperature_7 rfl (lv_at hl_2 1 rfl) ?_
  refine gF_plant C hW (hwc hwX7) (mc qw_287) dX7_furnaceByTemperature_8 ?_
  refine lv_iload_n hx hb dX7_furnaceByTemperature_11 rfl (lv_at hl_2 0 rfl) ?_
  refine g_calli (va_runV (As := [.int 0]) (rest := []) C.1 (cX4_rankOfFurnace0_ok l G X 0 h0_11) (cwV 1 C.1.2.2.2.2 (gV qw_1164 qw_1165 qw_1166 qw_72 qw_1167) rfl rfl rfl (by decide +kernel) ⟨Nat.le_of_ble_eq_true rfl, Nat.le_of_ble_eq_true rfl⟩) (g_rPlant C hW hS h0_11 [.int 0]) rfl rfl hl_2.1 rfl (lv_room (Nat.le_of_ble_eq_true rfl)) dX7_furnaceByTemperature_12 ⟨by decide, by decide⟩) hS (fun r_4 Y_5 H_6 locs_7 hW_8 hS_9 h_3 => ?_)
  obtain ⟨h_3, hy_10⟩ := h_3
  replace hy_10 := hy_10.symm
  subst hy_10
  subst h_3
  refine lv_iload_n hx hb dX7_furnaceByTemperature_15 rfl (lv_at hl_2 2 rfl) ?_
  refine lv_icmp_ne (tgt := 21) hx hb dX7_furnaceByTemperature_16 (by decide) (fun b_11 => ?_) (fun b_11 => ?_)
  · refine lv_iinc (v := 1) (lv' := [(2, .int 1), (0, .ref (ad G 715)), (1, .int x)]) hx hb dX7_furnaceByTemperature_21 hl_2 (k := 0) rfl (by decide) (by decide) rfl (fun ls_12 hl_13 => ?_)
    refine lv_goto (tgt := 2) hx hb dX7_furnaceByTemperature_24 (by decide) ?_
    refine lv_iload_n hx hb dX7_furnaceByTemperature_2 rfl (lv_at hl_13 0 rfl) ?_
    refine lv_iconst (v := 3) hx hb dX7_furnaceByTemperature_3 (by decide) ?_
    refine lv_icmp_ge (tgt := 27) hx hb dX7_furnaceByTemperature_4 (by decide) (fun h9 => absurd h9 (by decide)) (fun _ => ?_)
    refine lv_aload_n hx hb dX7_furnaceByTemperature_7 rfl (lv_at hl_13 1 rfl) ?_
    refine gF_plant C hW_8 (hwc hwX7) (mc qw_287) dX7_furnaceByTemperature_8 ?_
    refine lv_iload_n hx hb dX7_furnaceByTemperature_11 rfl (lv_at hl_13 0 rfl) ?_
    refine g_calli (va_runV (As := [.int 1]) (rest := []) C.1 (cX4_rankOfFurnace1_ok l G X 0 h0_11) (cwV 1 C.1.2.2.2.2 (gV qw_1164 qw_1165 qw_1166 qw_72 qw_1167) rfl rfl rfl (by decide +kernel) ⟨Nat.le_of_ble_eq_true rfl, Nat.le_of_ble_eq_true rfl⟩) (g_rPlant C hW_8 hS_9 h0_11 [.int 1]) rfl rfl hl_13.1 rfl (lv_room (Nat.le_of_ble_eq_true rfl)) dX7_furnaceByTemperature_12 ⟨by decide, by decide⟩) hS_9 (fun r_15 Y_16 H_17 locs_18 hW_19 hS_20 h_14 => ?_)
    obtain ⟨h_14, hy_21⟩ := h_14
    replace hy_21 := hy_21.symm
    subst hy_21
    subst h_14
    refine lv_iload_n hx hb dX7_furnaceByTemperature_15 rfl (lv_at hl_13 2 rfl) ?_
    refine lv_icmp_ne (tgt := 21) hx hb dX7_furnaceByTemperature_16 (by decide) (fun b_22 => ?_) (fun b_22 => ?_)
    · refine lv_iinc (v := 2) (lv' := [(2, .int 2), (0, .ref (ad G 715)), (1, .int x)]) hx hb dX7_furnaceByTemperature_21 hl_13 (k := 0) rfl (by decide) (by decide) rfl (fun ls_23 hl_24 => ?_)
      refine lv_goto (tgt := 2) hx hb dX7_furnaceByTemperature_24 (by decide) ?_
      refine lv_iload_n hx hb dX7_furnaceByTemperature_2 rfl (lv_at hl_24 0 rfl) ?_
      refine lv_iconst (v := 3) hx hb dX7_furnaceByTemperature_3 (by decide) ?_
      refine lv_icmp_ge (tgt := 27) hx hb dX7_furnaceByTemperature_4 (by decide) (fun h9 => absurd h9 (by decide)) (fun _ => ?_)
      refine lv_aload_n hx hb dX7_furnaceByTemperature_7 rfl (lv_at hl_24 1 rfl) ?_
      refine gF_plant C hW_19 (hwc hwX7) (mc qw_287) dX7_furnaceByTemperature_8 ?_
      refine lv_iload_n hx hb dX7_furnaceByTemperature_11 rfl (lv_at hl_24 0 rfl) ?_
      refine g_calli (va_runV (As := [.int 2]) (rest := []) C.1 (cX4_rankOfFurnace2_ok l G X 0 h0_11) (cwV 1 C.1.2.2.2.2 (gV qw_1164 qw_1165 qw_1166 qw_72 qw_1167) rfl rfl rfl (by decide +kernel) ⟨Nat.le_of_ble_eq_true rfl, Nat.le_of_ble_eq_true rfl⟩) (g_rPlant C hW_19 hS_20 h0_11 [.int 2]) rfl rfl hl_24.1 rfl (lv_room (Nat.le_of_ble_eq_true rfl)) dX7_furnaceByTemperature_12 ⟨by decide, by decide⟩) hS_20 (fun r_26 Y_27 H_28 locs_29 hW_30 hS_31 h_25 => ?_)
      obtain ⟨h_25, hy_32⟩ := h_25
      replace hy_32 := hy_32.symm
      subst hy_32
      subst h_25
      refine lv_iload_n hx hb dX7_furnaceByTemperature_15 rfl (lv_at hl_24 2 rfl) ?_
      refine lv_icmp_ne (tgt := 21) hx hb dX7_furnaceByTemperature_16 (by decide) (fun b_33 => ?_) (fun b_33 => ?_)
      · refine lv_iinc (v := 3) (lv' := [(2, .int 3), (0, .ref (ad G 715)), (1, .int x)]) hx hb dX7_furnaceByTemperature_21 hl_24 (k := 0) rfl (by decide) (by decide) rfl (fun ls_34 hl_35 => ?_)
        refine lv_goto (tgt := 2) hx hb dX7_furnaceByTemperature_24 (by decide) ?_
        refine lv_iload_n hx hb dX7_furnaceByTemperature_2 rfl (lv_at hl_35 0 rfl) ?_
        refine lv_iconst (v := 3) hx hb dX7_furnaceByTemperature_3 (by decide) ?_
        refine lv_icmp_ge (tgt := 27) hx hb dX7_furnaceByTemperature_4 (by decide) (fun _ => ?_) (fun h9 => absurd h9 (by decide))
        exact g_thr0 C hst (ik := 108) (ic := 110) (names := ["java/lang/RuntimeException", "java/lang/Exception"]) hex hlk hl_35.1 (by decide) (by decide) (mc qk_NSEE) (mc qi_NSEE) (fun w hw => mc (qg_NSEE w hw)) qn_NSEE nest_on qo_NSEE dX7_furnaceByTemperature_27 dX7_furnaceByTemperature_30 dX7_furnaceByTemperature_31 dX7_furnaceByTemperature_34 (Nat.le_of_ble_eq_true rfl) (Nat.le_of_ble_eq_true rfl) (by decide) (by decide) (by decide) (by decide) hW_30 hS_31 (by exact ⟨⟨0, rfl, by simp only [oF_furnaceByTemperature, b_11, b_22, b_33, if_true, if_false]⟩, rfl⟩)
      · refine lv_iload_n hx hb dX7_furnaceByTemperature_19 rfl (lv_at hl_24 0 rfl) ?_
        refine W.widen (k := 1) (n := 6) (by decide) (by decide) ?_
        refine vx_ret ?_
        exact g_iret C hr hlk hW_30 hS_31 dX7_furnaceByTemperature_20 (by exact ⟨⟨by simp only [oF_furnaceByTemperature, b_11, b_22, b_33, if_true, if_false], by simp only [oF_furnaceByTemperature, b_11, b_22, b_33, if_true, if_false]⟩, rfl⟩)
    · refine lv_iload_n hx hb dX7_furnaceByTemperature_19 rfl (lv_at hl_13 0 rfl) ?_
      refine W.widen (k := 1) (n := 6) (by decide) (by decide) ?_
      refine vx_ret ?_
      exact g_iret C hr hlk hW_19 hS_20 dX7_furnaceByTemperature_20 (by exact ⟨⟨by simp only [oF_furnaceByTemperature, b_11, b_22, if_true, if_false], by simp only [oF_furnaceByTemperature, b_11, b_22, if_true, if_false]⟩, rfl⟩)
  · refine lv_iload_n hx hb dX7_furnaceByTemperature_19 rfl (lv_at hl_2 0 rfl) ?_
    refine W.widen (k := 1) (n := 6) (by decide) (by decide) ?_
    refine vx_ret ?_
    exact g_iret C hr hlk hW_8 hS_9 dX7_furnaceByTemperature_20 (by exact ⟨⟨by simp only [oF_furnaceByTemperature, b_11, if_true, if_false], by simp only [oF_furnaceByTemperature, b_11, if_true, if_false]⟩, rfl⟩)
