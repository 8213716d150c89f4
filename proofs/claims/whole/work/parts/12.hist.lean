/-! History, the enum's ordinal, perform. -/
def keepR (w : Nat → Int32) (sp cn : Nat) : Nat → Int32 := upd (upd w (3) (nI ((sp + 1) % 9))) (4) (imin (nI (cn + 1)) 8)
theorem dOrd_0 : decode cJx29ce0_ordinal_8abf5 0 = .ok (.aload_n 0, 1) := by decide +kernel
theorem dOrd_1 : decode cJx29ce0_ordinal_8abf5 1 = .ok (.getfield 7, 3) := by decide +kernel
theorem dOrd_4 : decode cJx29ce0_ordinal_8abf5 4 = .ok (.ireturn, 1) := by decide +kernel
theorem qO_f : Cond.fieldLink "java/lang/Enum" 7 "java/lang/Enum" "ordinal" "I" ∈ lw_all := lw_mem 1979 (by decide +kernel) (by decide +kernel)
theorem qO_l : Cond.methodLink "Foundry$Plant" 69 ⟨"Foundry$Command", "ordinal", "()I"⟩ ∈ lw_all := lw_mem 815 (by decide +kernel) (by decide +kernel)
theorem qO_s : Cond.sameMethod "Foundry$Command" "java/lang/Enum" "ordinal" "()I" ∈ lw_all := lw_mem 816 (by decide +kernel) (by decide +kernel)
theorem qO_t : Cond.selects "Foundry$Command" ⟨"Foundry$Command", "ordinal", "()I"⟩ yJx29ce0_ordinal_8abf5 ∈ lw_all := lw_mem 818 (by decide +kernel) (by decide +kernel)
theorem qO_i : Cond.instanceMethod yJx29ce0_ordinal_8abf5 ∈ lw_all := lw_mem 819 (by decide +kernel) (by decide +kernel)
theorem qO_n : Cond.initialized "java/lang/Enum" ∈ lw_all := lw_mem 87 (by decide +kernel) (by decide +kernel)
theorem qO_c : Cond.code yJx29ce0_ordinal_8abf5 cJx29ce0_ordinal_8abf5 1 (some .int) ∈ lw_all := lw_mem 820 (by decide +kernel) (by decide +kernel)
theorem enOrd : ∀ i, i < 10 → [(0 : Int32), 1, 2, 3, 4, 5, 6, 7, 8, 9].getD i 0 = nI i := by decide +kernel
set_option maxHeartbeats 4000000 in
set_option maxRecDepth 100000 in
theorem cOrd_ok (l : Launch) (G : GT) (X : St) (i : Nat) (hi : i < 10) : MetI l G yJx29ce0_ordinal_8abf5 (wsG yJx29ce0_ordinal_8abf5 cJx29ce0_ordinal_8abf5 1 (some .int)) (rmz 0 0) [.ref (cy G (20 + i))] X (fun res Y => res = nI i ∧ Y = X) := by
  refine g_met (cc := cJx29ce0_ordinal_8abf5) (maxL := 1) (ret := (some .int)) (by decide) rfl (Nat.le_of_ble_eq_true rfl) ?_
  intro p e s m below meth c ls C hr hlk hnm hW hl
  have hx := C.1.1
  have hb := C.1.2.1
  have hS : va_S (Ab G) s.heap s.heap [] := va_S.rf
  have hl : lv_has ls 1 [(0, .ref (cy G (20 + i)))] := hl
  refine lv_aload_n hx hb dOrd_0 rfl (lv_at hl 0 rfl) ?_
  refine va_getE (i := i) C.1.1 C.1.2.1 C.2.2.2.2.2.2.2.1 hi hS C.1.2.2.2.1 (q := ("java/lang/Enum", "ordinal", "I", [0, 1, 2, 3, 4, 5, 6, 7, 8, 9])) (by decide) (C.1.2.2.2.2 _ (mc qO_f)) (fun _ h => h) dOrd_1 ?_
  refine g_top (y := nI i) (enOrd i hi) ?_
  exact g_iret C hr hlk hW hS dOrd_4 ⟨rfl, rfl⟩
theorem gOrd {x : MethodName} {cx : ByteArray} {nx : Nat} {rx : Option FieldType} : GoodIn (wsG x cx nx rx) (va_wsU "Foundry$Plant" 69 "Foundry$Command" "java/lang/Enum" ⟨"Foundry$Command", "ordinal", "()I"⟩ yJx29ce0_ordinal_8abf5 (wsG yJx29ce0_ordinal_8abf5 cJx29ce0_ordinal_8abf5 1 (some .int))) := by
  intro w hw
  rcases List.mem_append.mp hw with h5 | h5
  · have : w ∈ lw_all := by
      simp only [List.mem_cons, List.not_mem_nil, or_false] at h5
      rcases h5 with rfl | rfl | rfl | rfl | rfl
      · exact qO_l
      · exact qO_s
      · exact qO_t
      · exact qO_i
      · exact qO_n
    exact ⟨List.mem_cons_of_mem _ this, lw_good this⟩
  · exact gN qO_c w h5
def performR (i : Nat) (w : Nat → Int32) (a b c : Int32) : Int32 × (Nat → Int32) := match i with
  | 0 => addSolidR w a b c
  | 1 => stokeR w a b
  | 2 => skimOffR w a
  | 3 => drawR w a b c
  | 4 => giveBackR w a b
  | 5 => placeMouldR w a
  | 6 => castR w a b
  | 7 => knockOutR w a
  | 8 => remeltR w a b
  | _ => passR w a
set_option maxHeartbeats 4000000 in
set_option maxRecDepth 100000 in
theorem cX2_note_ok (l : Launch) (G : GT) (X : St) (sp : Nat) (hsp : sp < 9) (es : X.1 11 3 = nI sp) : MetV l G yX2_note (wsG yX2_note cX2_note 2 none) (rmz 4 264) [.ref (ad G 716), .ref (ad G (65 * 0 + 0))] X (fun Y => Y = setRow X (sp + 1) (cpPlantR (X.1 (sp + 1)) (X.1 0))) := by
  refine g_met (cc := cX2_note) (maxL := 2) (ret := none) (by decide) rfl (Nat.le_of_ble_eq_true rfl) ?_
  intro p e s m below meth c ls C hr hlk hnm hW hl
  have hx := C.1.1
  have hb := C.1.2.1
  have hS : va_S (Ab G) s.heap s.heap [] := va_S.rf
  have hl : lv_has ls 2 [(0, .ref (ad G 716)), (1, .ref (ad G (65 * 0 + 0)))] := hl
  refine lv_aload_n hx hb dX2_note_0 rfl (lv_at hl 0 rfl) ?_
  refine gHi_slots C hW (hwc hwX2) (mc qw_209) dX2_note_1 ?_
  refine lv_aload_n hx hb dX2_note_4 rfl (lv_at hl 0 rfl) ?_
  refine gHi_spare C hW (hwc hwX2) (mc qw_210) dX2_note_5 ?_
  refine g_top (y := nI sp) es ?_
  refine g_slot C hW sp (nI_clamp (by omega)) (vp_in_nI (show sp < 9 by omega) (by decide)) dX2_note_8 ?_
  refine lv_aload_n hx hb dX2_note_9 rfl (lv_at hl 1 rfl) ?_
  refine g_callv (va_runV (As := [.ref (ad G (65 * 0 + 0))]) (rest := []) C.1 (cX4_copyFrom_ok l G X (sp + 1) (by omega) 0 (by decide) (by omega)) (cwV 1 C.1.2.2.2.2 (gV qw_808 qw_773 qw_774 qw_72 qw_775) rfl rfl rfl (by decide +kernel) ⟨Nat.le_of_ble_eq_true rfl, Nat.le_of_ble_eq_true rfl⟩) (g_rPlant C hW hS (by omega) [.ref (ad G (65 * 0 + 0))]) rfl rfl hl.1 rfl (lv_room (Nat.le_of_ble_eq_true rfl)) dX2_note_10 ⟨Nat.zero_le _, Nat.zero_le _⟩) hS (fun Y_2 H_3 locs_4 hW_5 hS_6 h_1 => ?_)
  obtain ⟨w_7, ew_7⟩ : ∃ Z9, Z9 = cpPlantR (X.1 (sp + 1)) (X.1 0) := ⟨_, rfl⟩
  have hW_8 : Wd G (setRow X (sp + 1) w_7) H_3 := Wd.cast (by rw [h_1, ew_7]) hW_5
  exact g_vret C hr hlk hW_8 hS_6 dX2_note_13 (by subst ew_7; rfl)

set_option maxHeartbeats 4000000 in
set_option maxRecDepth 100000 in
theorem cX2_takeBack_ok (l : Launch) (G : GT) (X : St) (sp : Nat) (hsp : sp < 9) (es : X.1 11 3 = nI sp) : MetV l G yX2_takeBack (wsG yX2_takeBack cX2_takeBack 2 none) (rmz 4 264) [.ref (ad G 716), .ref (ad G (65 * 0 + 0))] X (fun Y => Y = setRow X 0 (cpPlantR (X.1 0) (X.1 (sp + 1)))) := by
  refine g_met (cc := cX2_takeBack) (maxL := 2) (ret := none) (by decide) rfl (Nat.le_of_ble_eq_true rfl) ?_
  intro p e s m below meth c ls C hr hlk hnm hW hl
  have hx := C.1.1
  have hb := C.1.2.1
  have hS : va_S (Ab G) s.heap s.heap [] := va_S.rf
  have hl : lv_has ls 2 [(0, .ref (ad G 716)), (1, .ref (ad G (65 * 0 + 0)))] := hl
  refine lv_aload_n hx hb dX2_takeBack_0 rfl (lv_at hl 1 rfl) ?_
  refine lv_aload_n hx hb dX2_takeBack_1 rfl (lv_at hl 0 rfl) ?_
  refine gHi_slots C hW (hwc hwX2) (mc qw_209) dX2_takeBack_2 ?_
  refine lv_aload_n hx hb dX2_takeBack_5 rfl (lv_at hl 0 rfl) ?_
  refine gHi_spare C hW (hwc hwX2) (mc qw_210) dX2_takeBack_6 ?_
  refine g_top (y := nI sp) es ?_
  refine g_slot C hW sp (nI_clamp (by omega)) (vp_in_nI (show sp < 9 by omega) (by decide)) dX2_takeBack_9 ?_
  refine g_callv (va_runV (As := [.ref (ad G (65 * (sp + 1) + 0))]) (rest := []) C.1 (cX4_copyFrom_ok l G X 0 (by decide) (sp + 1) (by omega) (by omega)) (cwV 1 C.1.2.2.2.2 (gV qw_808 qw_773 qw_774 qw_72 qw_775) rfl rfl rfl (by decide +kernel) ⟨Nat.le_of_ble_eq_true rfl, Nat.le_of_ble_eq_true rfl⟩) (g_rPlant C hW hS (by decide) [.ref (ad G (65 * (sp + 1) + 0))]) rfl rfl hl.1 rfl (lv_room (Nat.le_of_ble_eq_true rfl)) dX2_takeBack_10 ⟨Nat.zero_le _, Nat.zero_le _⟩) hS (fun Y_2 H_3 locs_4 hW_5 hS_6 h_1 => ?_)
  obtain ⟨w_7, ew_7⟩ : ∃ Z9, Z9 = cpPlantR (X.1 0) (X.1 (sp + 1)) := ⟨_, rfl⟩
  have hW_8 : Wd G (setRow X 0 w_7) H_3 := Wd.cast (by rw [h_1, ew_7]) hW_5
  exact g_vret C hr hlk hW_8 hS_6 dX2_takeBack_13 (by subst ew_7; rfl)

set_option maxHeartbeats 4000000 in
set_option maxRecDepth 100000 in
theorem cX2_keep_ok (l : Launch) (G : GT) (X : St) (sp : Nat) (hsp : sp < 9) (es : X.1 11 3 = nI sp) (cn : Nat) (hcn : cn ≤ 8) (ec : X.1 11 4 = nI cn) : MetV l G yX2_keep (wsG yX2_keep cX2_keep 1 none) (rmz 1 40) [.ref (ad G 716)] X (fun Y => Y = setRow X 11 (keepR (X.1 11) sp cn)) := by
  refine g_met (cc := cX2_keep) (maxL := 1) (ret := none) (by decide) rfl (Nat.le_of_ble_eq_true rfl) ?_
  intro p e s m below meth c ls C hr hlk hnm hW hl
  have hx := C.1.1
  have hb := C.1.2.1
  have hS : va_S (Ab G) s.heap s.heap [] := va_S.rf
  have hl : lv_has ls 1 [(0, .ref (ad G 716))] := hl
  refine lv_aload_n hx hb dX2_keep_0 rfl (lv_at hl 0 rfl) ?_
  refine lv_aload_n hx hb dX2_keep_1 rfl (lv_at hl 0 rfl) ?_
  refine gHi_spare C hW (hwc hwX2) (mc qw_210) dX2_keep_2 ?_
  refine g_top (y := nI sp) es ?_
  refine lv_iconst (v := 1) hx hb dX2_keep_5 (by decide) ?_
  refine lv_iadd hx hb dX2_keep_6 ?_
  refine g_top (y := nI (sp + 1)) (nI_add sp 1) ?_
  refine lv_bipush (v := 9) hx hb dX2_keep_7 (by decide) ?_
  refine lv_irem hx hb dX2_keep_9 (by decide) ?_
  refine g_top (y := nI ((sp + 1) % 9)) (pk_rem (a := sp + 1) (d := 9) (by omega) (by decide) (by decide)) ?_
  refine gHi_spareP C hW hS (hwc hwX2) (mc qw_210) dX2_keep_10 (fun H_1 locs_2 hW_3 hS_4 => ?_)
  obtain ⟨w_5, ew_5⟩ : ∃ Z9, Z9 = upd (X.1 11) (3) (nI ((sp + 1) % 9)) := ⟨_, rfl⟩
  have kn_6 : w_5 (4) = nI cn := by rw [ew_5]; exact (pk_un (by omega)).trans ec
  have kn_7 : w_5 (3) = nI ((sp + 1) % 9) := by rw [ew_5]; exact pk_us
  have hW_8 : Wd G (setRow X 11 w_5) H_1 := Wd.cast (by rw [ew_5]; exact st_base) hW_3
  refine lv_aload_n hx hb dX2_keep_13 rfl (lv_at hl 0 rfl) ?_
  refine lv_aload_n hx hb dX2_keep_14 rfl (lv_at hl 0 rfl) ?_
  refine gHi_count C hW_8 (hwc hwX2) (mc qw_211) dX2_keep_15 ?_
  refine g_top (y := w_5 (4)) (congrFun rd_out _) ?_
  refine g_top (y := nI cn) kn_6 ?_
  refine lv_iconst (v := 1) hx hb dX2_keep_18 (by decide) ?_
  refine lv_iadd hx hb dX2_keep_19 ?_
  refine g_top (y := nI (cn + 1)) (nI_add cn 1) ?_
  refine lv_bipush (v := 8) hx hb dX2_keep_20 (by decide) ?_
  refine va_mmin C.1.1 C.1.2.1 (C.1.2.2.1.trans hl.1.symm) C.1.2.2.2.1 (C.1.2.2.2.2 _ (mc qw_987)) (C.1.2.2.2.2 _ (mc qwm_static)) (C.1.2.2.2.2 _ (mc qwm_init)) (C.1.2.2.2.2 _ (mc qwm_code)) (Nat.le_of_ble_eq_true rfl) (Nat.le_of_ble_eq_true rfl) (Nat.zero_le _) (Nat.zero_le _) dX2_keep_22 ?_
  refine gHi_countP C hW_8 hS_4 (hwc hwX2) (mc qw_211) dX2_keep_25 (fun H_9 locs_10 hW_11 hS_12 => ?_)
  obtain ⟨w_13, ew_13⟩ : ∃ Z9, Z9 = upd w_5 (4) (imin (nI (cn + 1)) 8) := ⟨_, rfl⟩
  have kn_14 : w_13 (3) = nI ((sp + 1) % 9) := by rw [ew_13]; exact (pk_un (by omega)).trans kn_7
  have hW_15 : Wd G (setRow X 11 w_13) H_9 := Wd.cast (by rw [ew_13]; exact st_out) hW_11
  exact g_vret C hr hlk hW_15 hS_12 dX2_keep_28 (by subst ew_13; subst ew_5; simp only [keepR, imin])

set_option maxHeartbeats 4000000 in
set_option maxRecDepth 100000 in
theorem cX2_forget_ok (l : Launch) (G : GT) (X : St) : MetV l G yX2_forget (wsG yX2_forget cX2_forget 1 none) (rmz 0 0) [.ref (ad G 716)] X (fun Y => Y = setRow X 11 (upd (X.1 11) (4) 0)) := by
  refine g_met (cc := cX2_forget) (maxL := 1) (ret := none) (by decide) rfl (Nat.le_of_ble_eq_true rfl) ?_
  intro p e s m below meth c ls C hr hlk hnm hW hl
  have hx := C.1.1
  have hb := C.1.2.1
  have hS : va_S (Ab G) s.heap s.heap [] := va_S.rf
  have hl : lv_has ls 1 [(0, .ref (ad G 716))] := hl
  refine lv_aload_n hx hb dX2_forget_0 rfl (lv_at hl 0 rfl) ?_
  refine lv_iconst (v := 0) hx hb dX2_forget_1 (by decide) ?_
  refine gHi_countP C hW hS (hwc hwX2) (mc qw_211) dX2_forget_2 (fun H_1 locs_2 hW_3 hS_4 => ?_)
  obtain ⟨w_5, ew_5⟩ : ∃ Z9, Z9 = upd (X.1 11) (4) 0 := ⟨_, rfl⟩
  have hW_6 : Wd G (setRow X 11 w_5) H_1 := Wd.cast (by rw [ew_5]; exact st_base) hW_3
  exact g_vret C hr hlk hW_6 hS_4 dX2_forget_5 (by subst ew_5; rfl)

set_option maxHeartbeats 4000000 in
set_option maxRecDepth 100000 in
theorem cX2_stepBack_ok (l : Launch) (G : GT) (X : St) (sp : Nat) (hsp : sp < 9) (es : X.1 11 3 = nI sp) (cn : Nat) (hcn : cn ≤ 8) (ec : X.1 11 4 = nI cn) (hc0 : 0 < cn) : MetI l G yX2_stepBack (wsG yX2_stepBack cX2_stepBack 2 (some .boolean)) (rmz 5 285) [.ref (ad G 716), .ref (ad G (65 * 0 + 0))] X (fun res Y => res = 1 ∧ Y = setRow (setRow X 11 (upd (upd (X.1 11) (3) (nI ((sp + 9 - 1) % 9))) (4) (nI (cn - 1)))) 0 (cpPlantR (X.1 0) (X.1 ((sp + 9 - 1) % 9 + 1)))) := by
  refine g_met (cc := cX2_stepBack) (maxL := 2) (ret := (some .boolean)) (by decide) rfl (Nat.le_of_ble_eq_true rfl) ?_
  intro p e s m below meth c ls C hr hlk hnm hW hl
  have hx := C.1.1
  have hb := C.1.2.1
  have hS : va_S (Ab G) s.heap s.heap [] := va_S.rf
  have hl : lv_has ls 2 [(0, .ref (ad G 716)), (1, .ref (ad G (65 * 0 + 0)))] := hl
  refine lv_aload_n hx hb dX2_stepBack_0 rfl (lv_at hl 0 rfl) ?_
  refine gHi_count C hW (hwc hwX2) (mc qw_211) dX2_stepBack_1 ?_
  refine g_top (y := nI cn) ec ?_
  refine lv_if_ne (tgt := 9) hx hb dX2_stepBack_4 (by decide) (fun _ => ?_) (fun h9 => absurd h9 (nI_ne0 hc0 (by omega)))
  refine lv_aload_n hx hb dX2_stepBack_9 rfl (lv_at hl 0 rfl) ?_
  refine lv_aload_n hx hb dX2_stepBack_10 rfl (lv_at hl 0 rfl) ?_
  refine gHi_spare C hW (hwc hwX2) (mc qw_210) dX2_stepBack_11 ?_
  refine g_top (y := nI sp) es ?_
  refine lv_bipush (v := 9) hx hb dX2_stepBack_14 (by decide) ?_
  refine lv_iadd hx hb dX2_stepBack_16 ?_
  refine g_top (y := nI (sp + 9)) (nI_add sp 9) ?_
  refine lv_iconst (v := 1) hx hb dX2_stepBack_17 (by decide) ?_
  refine lv_isub hx hb dX2_stepBack_18 ?_
  refine g_top (y := nI (sp + 9 - 1)) (pk_sub (a := (sp + 9)) (b := 1) (by omega)) ?_
  refine lv_bipush (v := 9) hx hb dX2_stepBack_19 (by decide) ?_
  refine lv_irem hx hb dX2_stepBack_21 (by decide) ?_
  refine g_top (y := nI ((sp + 9 - 1) % 9)) (pk_rem (a := sp + 9 - 1) (d := 9) (by omega) (by decide) (by decide)) ?_
  refine gHi_spareP C hW hS (hwc hwX2) (mc qw_210) dX2_stepBack_22 (fun H_1 locs_2 hW_3 hS_4 => ?_)
  obtain ⟨w_5, ew_5⟩ : ∃ Z9, Z9 = upd (X.1 11) (3) (nI ((sp + 9 - 1) % 9)) := ⟨_, rfl⟩
  have kn_6 : w_5 (4) = nI cn := by rw [ew_5]; exact (pk_un (by omega)).trans ec
  have kn_7 : w_5 (3) = nI ((sp + 9 - 1) % 9) := by rw [ew_5]; exact pk_us
  have hW_8 : Wd G (setRow X 11 w_5) H_1 := Wd.cast (by rw [ew_5]; exact st_base) hW_3
  refine lv_aload_n hx hb dX2_stepBack_25 rfl (lv_at hl 0 rfl) ?_
  refine lv_dup hx hb dX2_stepBack_26 rfl ?_
  refine gHi_count C hW_8 (hwc hwX2) (mc qw_211) dX2_stepBack_27 ?_
  refine g_top (y := w_5 (4)) (congrFun rd_out _) ?_
  refine g_top (y := nI cn) kn_6 ?_
  refine lv_iconst (v := 1) hx hb dX2_stepBack_30 (by decide) ?_
  refine lv_isub hx hb dX2_stepBack_31 ?_
  refine g_top (y := nI (cn - 1)) (pk_sub (a := cn) (b := 1) (by omega)) ?_
  refine gHi_countP C hW_8 hS_4 (hwc hwX2) (mc qw_211) dX2_stepBack_32 (fun H_9 locs_10 hW_11 hS_12 => ?_)
  obtain ⟨w_13, ew_13⟩ : ∃ Z9, Z9 = upd w_5 (4) (nI (cn - 1)) := ⟨_, rfl⟩
  have kn_14 : w_13 (3) = nI ((sp + 9 - 1) % 9) := by rw [ew_13]; exact (pk_un (by omega)).trans kn_7
  have kn_15 : w_13 (4) = nI (cn - 1) := by rw [ew_13]; exact pk_us
  have hW_16 : Wd G (setRow X 11 w_13) H_9 := Wd.cast (by rw [ew_13]; exact st_out) hW_11
  refine lv_aload_n hx hb dX2_stepBack_35 rfl (lv_at hl 0 rfl) ?_
  refine lv_aload_n hx hb dX2_stepBack_36 rfl (lv_at hl 1 rfl) ?_
  refine g_callv (va_runV (As := [.ref (ad G (65 * 0 + 0))]) (rest := []) C.1 (cX2_takeBack_ok l G (setRow X 11 w_13) ((sp + 9 - 1) % 9) (by omega) ((congrFun rd_out _).trans kn_14)) (cwV 1 C.1.2.2.2.2 (gV qw_1452 qw_1424 qw_1425 qw_75 qw_1426) rfl rfl rfl (by decide +kernel) ⟨Nat.le_of_ble_eq_true rfl, Nat.le_of_ble_eq_true rfl⟩) (g_rHist C hW_16 hS_12 [.ref (ad G (65 * 0 + 0))]) rfl rfl hl.1 rfl (lv_room (Nat.le_of_ble_eq_true rfl)) dX2_stepBack_37 ⟨Nat.zero_le _, Nat.zero_le _⟩) hS_12 (fun Y_18 H_19 locs_20 hW_21 hS_22 h_17 => ?_)
  rw [show (setRow X 11 w_13).1 ((sp + 9 - 1) % 9 + 1) = X.1 ((sp + 9 - 1) % 9 + 1) from (rd_in (by omega) rfl)] at h_17
  obtain ⟨w_23, ew_23⟩ : ∃ Z9, Z9 = cpPlantR (X.1 0) (X.1 ((sp + 9 - 1) % 9 + 1)) := ⟨_, rfl⟩
  have hW_24 : Wd G (setRow (setRow X 11 w_13) 0 w_23) H_19 := Wd.cast (by rw [h_17, ew_23]; exact (congrArg (fun Z9 => setRow (setRow X 11 w_13) 0 (cpPlantR Z9 (X.1 ((sp + 9 - 1) % 9 + 1)))) (rd_in (by decide) rfl))) hW_21
  refine lv_iconst (v := 1) hx hb dX2_stepBack_40 (by decide) ?_
  exact g_zret C hr hlk hW_24 hS_22 dX2_stepBack_41 rfl (by subst ew_23; subst ew_13; subst ew_5; exact ⟨rfl, rfl⟩)

set_option maxHeartbeats 4000000 in
set_option maxRecDepth 100000 in
theorem cX2_stepBack0_ok (l : Launch) (G : GT) (X : St) (ec : X.1 11 4 = nI 0) : MetI l G yX2_stepBack (wsG yX2_stepBack cX2_stepBack 2 (some .boolean)) (rmz 0 0) [.ref (ad G 716), .ref (ad G (65 * 0 + 0))] X (fun res Y => res = 0 ∧ Y = X) := by
  refine g_met (cc := cX2_stepBack) (maxL := 2) (ret := (some .boolean)) (by decide) rfl (Nat.le_of_ble_eq_true rfl) ?_
  intro p e s m below meth c ls C hr hlk hnm hW hl
  have hx := C.1.1
  have hb := C.1.2.1
  have hS : va_S (Ab G) s.heap s.heap [] := va_S.rf
  have hl : lv_has ls 2 [(0, .ref (ad G 716)), (1, .ref (ad G (65 * 0 + 0)))] := hl
  refine lv_aload_n hx hb dX2_stepBack_0 rfl (lv_at hl 0 rfl) ?_
  refine gHi_count C hW (hwc hwX2) (mc qw_211) dX2_stepBack_1 ?_
  refine g_top (y := nI 0) ec ?_
  refine lv_if_ne (tgt := 9) hx hb dX2_stepBack_4 (by decide) (fun h9 => absurd rfl h9) (fun _ => ?_)
  refine lv_iconst (v := 0) hx hb dX2_stepBack_7 (by decide) ?_
  exact g_zret C hr hlk hW hS dX2_stepBack_8 rfl (by exact ⟨rfl, rfl⟩)

set_option maxHeartbeats 4000000 in
set_option maxRecDepth 100000 in
theorem cX4_perform0_ok (l : Launch) (G : GT) (X : St) (n : Nat) (hp : n < 11) (hi : PInv (X.1 n)) (a b c_ : Int32) : MetI l G yX4_perform (wsG yX4_perform cX4_perform 5 (some .int)) (rmz 3 70) [.ref (ad G (65 * n + 0)), .ref (cy G (20 + 0)), .int a, .int b, .int c_] X (fun res Y => res = (performR 0 (X.1 n) a b c_).1 ∧ Y = setRow X n (performR 0 (X.1 n) a b c_).2) := by
  refine g_met (cc := cX4_perform) (maxL := 5) (ret := (some .int)) (by decide) rfl (Nat.le_of_ble_eq_true rfl) ?_
  intro p e s m below meth c ls C hr hlk hnm hW hl
  have hx := C.1.1
  have hb := C.1.2.1
  have hS : va_S (Ab G) s.heap s.heap [] := va_S.rf
  have hl : lv_has ls 5 [(0, .ref (ad G (65 * n + 0))), (1, .ref (cy G (20 + 0))), (2, .int a), (3, .int b), (4, .int c_)] := hl
  refine lv_aload_n hx hb dX4_perform_0 rfl (lv_at hl 1 rfl) ?_
  refine lv_ifnonnull (tgt := 7) hx hb dX4_perform_1 (by decide) ?_
  refine va_gets (v := .ref (cy G 43)) C.1.1 C.1.2.1 C.2.2.2.2.2.2.2.2.2.1.1 hS C.1.2.2.2.1 (C.1.2.2.2.2 _ (mc qw_813)) (fun _ h => h) dX4_perform_7 ?_
  refine lv_aload_n hx hb dX4_perform_10 rfl (lv_at hl 1 rfl) ?_
  refine g_calli (va_runU (As := []) (rest := [.ref (cy G 43)]) C.1 (cOrd_ok l G X 0 (by decide)) (va_cwU 0 C.1.2.2.2.2 gOrd rfl rfl rfl rfl (by decide +kernel) ⟨Nat.le_of_ble_eq_true rfl, Nat.le_of_ble_eq_true rfl⟩) ⟨Kp.blind, va_recvE (E := "Foundry$Command") C.2.2.2.2.2.2.2.1 (i := 0) (by decide) hS, (g_pre C hW hS _).2⟩ rfl rfl hl.1 rfl (lv_room (Nat.le_of_ble_eq_true rfl)) dX4_perform_11 ⟨Nat.zero_le _, Nat.zero_le _⟩) hS (fun r_1 Y_2 H_4 locs_5 hW_6 hS_7 h_3 => ?_)
  obtain ⟨h_3, hy_8⟩ := h_3
  replace hy_8 := hy_8.symm
  subst hy_8
  subst h_3
  refine va_ti (v := .int 1) C.1.1 C.1.2.1 C.2.2.2.2.2.2.2.2.2.1.2 hS_7 (vlit (by decide)) (by rfl) dX4_perform_14 ?_
  refine lv_tableIn (tgt := 68) hx hb dX4_perform_15 (by decide) (by decide) rfl (by decide) ?_
  refine lv_aload_n hx hb dX4_perform_68 rfl (lv_at hl 0 rfl) ?_
  refine lv_iload_n hx hb dX4_perform_69 rfl (lv_at hl 2 rfl) ?_
  refine lv_iload_n hx hb dX4_perform_70 rfl (lv_at hl 3 rfl) ?_
  refine lv_iload hx hb dX4_perform_71 (lv_at hl 4 rfl) ?_
  refine g_calli (va_runV (As := [.int a, .int b, .int c_]) (rest := []) C.1 (cX4_addSolid_ok l G X n hp a b c_) (cwV 3 C.1.2.2.2.2 (gV qw_821 qw_823 qw_3 qw_72 qw_824) rfl rfl rfl (by decide +kernel) ⟨Nat.le_of_ble_eq_true rfl, Nat.le_of_ble_eq_true rfl⟩) (g_rPlant C hW_6 hS_7 hp [.int a, .int b, .int c_]) rfl rfl hl.1 rfl (lv_room (Nat.le_of_ble_eq_true rfl)) dX4_perform_73 ⟨Nat.zero_le _, Nat.zero_le _⟩) hS_7 (fun r_10 Y_11 H_12 locs_13 hW_14 hS_15 h_9 => ?_)
  obtain ⟨h_16, h_9⟩ := h_9
  subst h_16
  obtain ⟨w_17, ew_17⟩ : ∃ Z9, Z9 = (addSolidR (X.1 n) a b c_).2 := ⟨_, rfl⟩
  have hW_18 : Wd G (setRow X n w_17) H_12 := Wd.cast (by rw [h_9, ew_17]) hW_14
  exact g_iret C hr hlk hW_18 hS_15 dX4_perform_76 (by subst ew_17; exact ⟨rfl, rfl⟩)

set_option maxHeartbeats 4000000 in
set_option maxRecDepth 100000 in
theorem cX4_perform1_ok (l : Launch) (G : GT) (X : St) (n : Nat) (hp : n < 11) (hi : PInv (X.1 n)) (a b c_ : Int32) : MetI l G yX4_perform (wsG yX4_perform cX4_perform 5 (some .int)) (rmz 2 44) [.ref (ad G (65 * n + 0)), .ref (cy G (20 + 1)), .int a, .int b, .int c_] X (fun res Y => res = (performR 1 (X.1 n) a b c_).1 ∧ Y = setRow X n (performR 1 (X.1 n) a b c_).2) := by
  refine g_met (cc := cX4_perform) (maxL := 5) (ret := (some .int)) (by decide) rfl (Nat.le_of_ble_eq_true rfl) ?_
  intro p e s m below meth c ls C hr hlk hnm hW hl
  have hx := C.1.1
  have hb := C.1.2.1
  have hS : va_S (Ab G) s.heap s.heap [] := va_S.rf
  have hl : lv_has ls 5 [(0, .ref (ad G (65 * n + 0))), (1, .ref (cy G (20 + 1))), (2, .int a), (3, .int b), (4, .int c_)] := hl
  refine lv_aload_n hx hb dX4_perform_0 rfl (lv_at hl 1 rfl) ?_
  refine lv_ifnonnull (tgt := 7) hx hb dX4_perform_1 (by decide) ?_
  refine va_gets (v := .ref (cy G 43)) C.1.1 C.1.2.1 C.2.2.2.2.2.2.2.2.2.1.1 hS C.1.2.2.2.1 (C.1.2.2.2.2 _ (mc qw_813)) (fun _ h => h) dX4_perform_7 ?_
  refine lv_aload_n hx hb dX4_perform_10 rfl (lv_at hl 1 rfl) ?_
  refine g_calli (va_runU (As := []) (rest := [.ref (cy G 43)]) C.1 (cOrd_ok l G X 1 (by decide)) (va_cwU 0 C.1.2.2.2.2 gOrd rfl rfl rfl rfl (by decide +kernel) ⟨Nat.le_of_ble_eq_true rfl, Nat.le_of_ble_eq_true rfl⟩) ⟨Kp.blind, va_recvE (E := "Foundry$Command") C.2.2.2.2.2.2.2.1 (i := 1) (by decide) hS, (g_pre C hW hS _).2⟩ rfl rfl hl.1 rfl (lv_room (Nat.le_of_ble_eq_true rfl)) dX4_perform_11 ⟨Nat.zero_le _, Nat.zero_le _⟩) hS (fun r_1 Y_2 H_4 locs_5 hW_6 hS_7 h_3 => ?_)
  obtain ⟨h_3, hy_8⟩ := h_3
  replace hy_8 := hy_8.symm
  subst hy_8
  subst h_3
  refine va_ti (v := .int 2) C.1.1 C.1.2.1 C.2.2.2.2.2.2.2.2.2.1.2 hS_7 (vlit (by decide)) (by rfl) dX4_perform_14 ?_
  refine lv_tableIn (tgt := 77) hx hb dX4_perform_15 (by decide) (by decide) rfl (by decide) ?_
  refine lv_aload_n hx hb dX4_perform_77 rfl (lv_at hl 0 rfl) ?_
  refine lv_iload_n hx hb dX4_perform_78 rfl (lv_at hl 2 rfl) ?_
  refine lv_iload_n hx hb dX4_perform_79 rfl (lv_at hl 3 rfl) ?_
  refine g_calli (va_runV (As := [.int a, .int b]) (rest := []) C.1 (cX4_stoke_ok l G X n hp a b) (cwV 2 C.1.2.2.2.2 (gV qw_837 qw_839 qw_4 qw_72 qw_840) rfl rfl rfl (by decide +kernel) ⟨Nat.le_of_ble_eq_true rfl, Nat.le_of_ble_eq_true rfl⟩) (g_rPlant C hW_6 hS_7 hp [.int a, .int b]) rfl rfl hl.1 rfl (lv_room (Nat.le_of_ble_eq_true rfl)) dX4_perform_80 ⟨Nat.zero_le _, Nat.zero_le _⟩) hS_7 (fun r_10 Y_11 H_12 locs_13 hW_14 hS_15 h_9 => ?_)
  obtain ⟨h_16, h_9⟩ := h_9
  subst h_16
  obtain ⟨w_17, ew_17⟩ : ∃ Z9, Z9 = (stokeR (X.1 n) a b).2 := ⟨_, rfl⟩
  have hW_18 : Wd G (setRow X n w_17) H_12 := Wd.cast (by rw [h_9, ew_17]) hW_14
  exact g_iret C hr hlk hW_18 hS_15 dX4_perform_83 (by subst ew_17; exact ⟨rfl, rfl⟩)

set_option maxHeartbeats 4000000 in
set_option maxRecDepth 100000 in
theorem cX4_perform2_ok (l : Launch) (G : GT) (X : St) (n : Nat) (hp : n < 11) (hi : PInv (X.1 n)) (a b c_ : Int32) : MetI l G yX4_perform (wsG yX4_perform cX4_perform 5 (some .int)) (rmz 3 69) [.ref (ad G (65 * n + 0)), .ref (cy G (20 + 2)), .int a, .int b, .int c_] X (fun res Y => res = (performR 2 (X.1 n) a b c_).1 ∧ Y = setRow X n (performR 2 (X.1 n) a b c_).2) := by
  refine g_met (cc := cX4_perform) (maxL := 5) (ret := (some .int)) (by decide) rfl (Nat.le_of_ble_eq_true rfl) ?_
  intro p e s m below meth c ls C hr hlk hnm hW hl
  have hx := C.1.1
  have hb := C.1.2.1
  have hS : va_S (Ab G) s.heap s.heap [] := va_S.rf
  have hl : lv_has ls 5 [(0, .ref (ad G (65 * n + 0))), (1, .ref (cy G (20 + 2))), (2, .int a), (3, .int b), (4, .int c_)] := hl
  refine lv_aload_n hx hb dX4_perform_0 rfl (lv_at hl 1 rfl) ?_
  refine lv_ifnonnull (tgt := 7) hx hb dX4_perform_1 (by decide) ?_
  refine va_gets (v := .ref (cy G 43)) C.1.1 C.1.2.1 C.2.2.2.2.2.2.2.2.2.1.1 hS C.1.2.2.2.1 (C.1.2.2.2.2 _ (mc qw_813)) (fun _ h => h) dX4_perform_7 ?_
  refine lv_aload_n hx hb dX4_perform_10 rfl (lv_at hl 1 rfl) ?_
  refine g_calli (va_runU (As := []) (rest := [.ref (cy G 43)]) C.1 (cOrd_ok l G X 2 (by decide)) (va_cwU 0 C.1.2.2.2.2 gOrd rfl rfl rfl rfl (by decide +kernel) ⟨Nat.le_of_ble_eq_true rfl, Nat.le_of_ble_eq_true rfl⟩) ⟨Kp.blind, va_recvE (E := "Foundry$Command") C.2.2.2.2.2.2.2.1 (i := 2) (by decide) hS, (g_pre C hW hS _).2⟩ rfl rfl hl.1 rfl (lv_room (Nat.le_of_ble_eq_true rfl)) dX4_perform_11 ⟨Nat.zero_le _, Nat.zero_le _⟩) hS (fun r_1 Y_2 H_4 locs_5 hW_6 hS_7 h_3 => ?_)
  obtain ⟨h_3, hy_8⟩ := h_3
  replace hy_8 := hy_8.symm
  subst hy_8
  subst h_3
  refine va_ti (v := .int 3) C.1.1 C.1.2.1 C.2.2.2.2.2.2.2.2.2.1.2 hS_7 (vlit (by decide)) (by rfl) dX4_perform_14 ?_
  refine lv_tableIn (tgt := 84) hx hb dX4_perform_15 (by decide) (by decide) rfl (by decide) ?_
  refine lv_aload_n hx hb dX4_perform_84 rfl (lv_at hl 0 rfl) ?_
  refine lv_iload_n hx hb dX4_perform_85 rfl (lv_at hl 2 rfl) ?_
  refine g_calli (va_runV (As := [.int a]) (rest := []) C.1 (cX4_skimOff_ok l G X n hp a) (cwV 1 C.1.2.2.2.2 (gV qw_841 qw_843 qw_5 qw_72 qw_844) rfl rfl rfl (by decide +kernel) ⟨Nat.le_of_ble_eq_true rfl, Nat.le_of_ble_eq_true rfl⟩) (g_rPlant C hW_6 hS_7 hp [.int a]) rfl rfl hl.1 rfl (lv_room (Nat.le_of_ble_eq_true rfl)) dX4_perform_86 ⟨Nat.zero_le _, Nat.zero_le _⟩) hS_7 (fun r_10 Y_11 H_12 locs_13 hW_14 hS_15 h_9 => ?_)
  obtain ⟨h_16, h_9⟩ := h_9
  subst h_16
  obtain ⟨w_17, ew_17⟩ : ∃ Z9, Z9 = (skimOffR (X.1 n) a).2 := ⟨_, rfl⟩
  have hW_18 : Wd G (setRow X n w_17) H_12 := Wd.cast (by rw [h_9, ew_17]) hW_14
  exact g_iret C hr hlk hW_18 hS_15 dX4_perform_89 (by subst ew_17; exact ⟨rfl, rfl⟩)

set_option maxHeartbeats 4000000 in
set_option maxRecDepth 100000 in
theorem cX4_perform3_ok (l : Launch) (G : GT) (X : St) (n : Nat) (hp : n < 11) (hi : PInv (X.1 n)) (a b c_ : Int32) : MetI l G yX4_perform (wsG yX4_perform cX4_perform 5 (some .int)) (rmz 3 74) [.ref (ad G (65 * n + 0)), .ref (cy G (20 + 3)), .int a, .int b, .int c_] X (fun res Y => res = (performR 3 (X.1 n) a b c_).1 ∧ Y = setRow X n (performR 3 (X.1 n) a b c_).2) := by
  refine g_met (cc := cX4_perform) (maxL := 5) (ret := (some .int)) (by decide) rfl (Nat.le_of_ble_eq_true rfl) ?_
  intro p e s m below meth c ls C hr hlk hnm hW hl
  have hx := C.1.1
  have hb := C.1.2.1
  have hS : va_S (Ab G) s.heap s.heap [] := va_S.rf
  have hl : lv_has ls 5 [(0, .ref (ad G (65 * n + 0))), (1, .ref (cy G (20 + 3))), (2, .int a), (3, .int b), (4, .int c_)] := hl
  refine lv_aload_n hx hb dX4_perform_0 rfl (lv_at hl 1 rfl) ?_
  refine lv_ifnonnull (tgt := 7) hx hb dX4_perform_1 (by decide) ?_
  refine va_gets (v := .ref (cy G 43)) C.1.1 C.1.2.1 C.2.2.2.2.2.2.2.2.2.1.1 hS C.1.2.2.2.1 (C.1.2.2.2.2 _ (mc qw_813)) (fun _ h => h) dX4_perform_7 ?_
  refine lv_aload_n hx hb dX4_perform_10 rfl (lv_at hl 1 rfl) ?_
  refine g_calli (va_runU (As := []) (rest := [.ref (cy G 43)]) C.1 (cOrd_ok l G X 3 (by decide)) (va_cwU 0 C.1.2.2.2.2 gOrd rfl rfl rfl rfl (by decide +kernel) ⟨Nat.le_of_ble_eq_true rfl, Nat.le_of_ble_eq_true rfl⟩) ⟨Kp.blind, va_recvE (E := "Foundry$Command") C.2.2.2.2.2.2.2.1 (i := 3) (by decide) hS, (g_pre C hW hS _).2⟩ rfl rfl hl.1 rfl (lv_room (Nat.le_of_ble_eq_true rfl)) dX4_perform_11 ⟨Nat.zero_le _, Nat.zero_le _⟩) hS (fun r_1 Y_2 H_4 locs_5 hW_6 hS_7 h_3 => ?_)
  obtain ⟨h_3, hy_8⟩ := h_3
  replace hy_8 := hy_8.symm
  subst hy_8
  subst h_3
  refine va_ti (v := .int 4) C.1.1 C.1.2.1 C.2.2.2.2.2.2.2.2.2.1.2 hS_7 (vlit (by decide)) (by rfl) dX4_perform_14 ?_
  refine lv_tableIn (tgt := 90) hx hb dX4_perform_15 (by decide) (by decide) rfl (by decide) ?_
  refine lv_aload_n hx hb dX4_perform_90 rfl (lv_at hl 0 rfl) ?_
  refine lv_iload_n hx hb dX4_perform_91 rfl (lv_at hl 2 rfl) ?_
  refine lv_iload_n hx hb dX4_perform_92 rfl (lv_at hl 3 rfl) ?_
  refine lv_iload hx hb dX4_perform_93 (lv_at hl 4 rfl) ?_
  refine g_calli (va_runV (As := [.int a, .int b, .int c_]) (rest := []) C.1 (cX4_draw_ok l G X n hp a b c_) (cwV 3 C.1.2.2.2.2 (gV qw_854 qw_856 qw_7 qw_72 qw_857) rfl rfl rfl (by decide +kernel) ⟨Nat.le_of_ble_eq_true rfl, Nat.le_of_ble_eq_true rfl⟩) (g_rPlant C hW_6 hS_7 hp [.int a, .int b, .int c_]) rfl rfl hl.1 rfl (lv_room (Nat.le_of_ble_eq_true rfl)) dX4_perform_95 ⟨Nat.zero_le _, Nat.zero_le _⟩) hS_7 (fun r_10 Y_11 H_12 locs_13 hW_14 hS_15 h_9 => ?_)
  obtain ⟨h_16, h_9⟩ := h_9
  subst h_16
  obtain ⟨w_17, ew_17⟩ : ∃ Z9, Z9 = (drawR (X.1 n) a b c_).2 := ⟨_, rfl⟩
  have hW_18 : Wd G (setRow X n w_17) H_12 := Wd.cast (by rw [h_9, ew_17]) hW_14
  exact g_iret C hr hlk hW_18 hS_15 dX4_perform_98 (by subst ew_17; exact ⟨rfl, rfl⟩)

set_option maxHeartbeats 4000000 in
set_option maxRecDepth 100000 in
theorem cX4_perform4_ok (l : Launch) (G : GT) (X : St) (n : Nat) (hp : n < 11) (hi : PInv (X.1 n)) (a b c_ : Int32) : MetI l G yX4_perform (wsG yX4_perform cX4_perform 5 (some .int)) (rmz 3 70) [.ref (ad G (65 * n + 0)), .ref (cy G (20 + 4)), .int a, .int b, .int c_] X (fun res Y => res = (performR 4 (X.1 n) a b c_).1 ∧ Y = setRow X n (performR 4 (X.1 n) a b c_).2) := by
  refine g_met (cc := cX4_perform) (maxL := 5) (ret := (some .int)) (by decide) rfl (Nat.le_of_ble_eq_true rfl) ?_
  intro p e s m below meth c ls C hr hlk hnm hW hl
  have hx := C.1.1
  have hb := C.1.2.1
  have hS : va_S (Ab G) s.heap s.heap [] := va_S.rf
  have hl : lv_has ls 5 [(0, .ref (ad G (65 * n + 0))), (1, .ref (cy G (20 + 4))), (2, .int a), (3, .int b), (4, .int c_)] := hl
  refine lv_aload_n hx hb dX4_perform_0 rfl (lv_at hl 1 rfl) ?_
  refine lv_ifnonnull (tgt := 7) hx hb dX4_perform_1 (by decide) ?_
  refine va_gets (v := .ref (cy G 43)) C.1.1 C.1.2.1 C.2.2.2.2.2.2.2.2.2.1.1 hS C.1.2.2.2.1 (C.1.2.2.2.2 _ (mc qw_813)) (fun _ h => h) dX4_perform_7 ?_
  refine lv_aload_n hx hb dX4_perform_10 rfl (lv_at hl 1 rfl) ?_
  refine g_calli (va_runU (As := []) (rest := [.ref (cy G 43)]) C.1 (cOrd_ok l G X 4 (by decide)) (va_cwU 0 C.1.2.2.2.2 gOrd rfl rfl rfl rfl (by decide +kernel) ⟨Nat.le_of_ble_eq_true rfl, Nat.le_of_ble_eq_true rfl⟩) ⟨Kp.blind, va_recvE (E := "Foundry$Command") C.2.2.2.2.2.2.2.1 (i := 4) (by decide) hS, (g_pre C hW hS _).2⟩ rfl rfl hl.1 rfl (lv_room (Nat.le_of_ble_eq_true rfl)) dX4_perform_11 ⟨Nat.zero_le _, Nat.zero_le _⟩) hS (fun r_1 Y_2 H_4 locs_5 hW_6 hS_7 h_3 => ?_)
  obtain ⟨h_3, hy_8⟩ := h_3
  replace hy_8 := hy_8.symm
  subst hy_8
  subst h_3
  refine va_ti (v := .int 5) C.1.1 C.1.2.1 C.2.2.2.2.2.2.2.2.2.1.2 hS_7 (vlit (by decide)) (by rfl) dX4_perform_14 ?_
  refine lv_tableIn (tgt := 99) hx hb dX4_perform_15 (by decide) (by decide) rfl (by decide) ?_
  refine lv_aload_n hx hb dX4_perform_99 rfl (lv_at hl 0 rfl) ?_
  refine lv_iload_n hx hb dX4_perform_100 rfl (lv_at hl 2 rfl) ?_
  refine lv_iload_n hx hb dX4_perform_101 rfl (lv_at hl 3 rfl) ?_
  refine g_calli (va_runV (As := [.int a, .int b]) (rest := []) C.1 (cX4_giveBack_ok l G X n hp a b) (cwV 2 C.1.2.2.2.2 (gV qw_864 qw_866 qw_8 qw_72 qw_867) rfl rfl rfl (by decide +kernel) ⟨Nat.le_of_ble_eq_true rfl, Nat.le_of_ble_eq_true rfl⟩) (g_rPlant C hW_6 hS_7 hp [.int a, .int b]) rfl rfl hl.1 rfl (lv_room (Nat.le_of_ble_eq_true rfl)) dX4_perform_102 ⟨Nat.zero_le _, Nat.zero_le _⟩) hS_7 (fun r_10 Y_11 H_12 locs_13 hW_14 hS_15 h_9 => ?_)
  obtain ⟨h_16, h_9⟩ := h_9
  subst h_16
  obtain ⟨w_17, ew_17⟩ : ∃ Z9, Z9 = (giveBackR (X.1 n) a b).2 := ⟨_, rfl⟩
  have hW_18 : Wd G (setRow X n w_17) H_12 := Wd.cast (by rw [h_9, ew_17]) hW_14
  exact g_iret C hr hlk hW_18 hS_15 dX4_perform_105 (by subst ew_17; exact ⟨rfl, rfl⟩)

set_option maxHeartbeats 4000000 in
set_option maxRecDepth 100000 in
theorem cX4_perform5_ok (l : Launch) (G : GT) (X : St) (n : Nat) (hp : n < 11) (hi : PInv (X.1 n)) (a b c_ : Int32) : MetI l G yX4_perform (wsG yX4_perform cX4_perform 5 (some .int)) (rmz 2 42) [.ref (ad G (65 * n + 0)), .ref (cy G (20 + 5)), .int a, .int b, .int c_] X (fun res Y => res = (performR 5 (X.1 n) a b c_).1 ∧ Y = setRow X n (performR 5 (X.1 n) a b c_).2) := by
  refine g_met (cc := cX4_perform) (maxL := 5) (ret := (some .int)) (by decide) rfl (Nat.le_of_ble_eq_true rfl) ?_
  intro p e s m below meth c ls C hr hlk hnm hW hl
  have hx := C.1.1
  have hb := C.1.2.1
  have hS : va_S (Ab G) s.heap s.heap [] := va_S.rf
  have hl : lv_has ls 5 [(0, .ref (ad G (65 * n + 0))), (1, .ref (cy G (20 + 5))), (2, .int a), (3, .int b), (4, .int c_)] := hl
  refine lv_aload_n hx hb dX4_perform_0 rfl (lv_at hl 1 rfl) ?_
  refine lv_ifnonnull (tgt := 7) hx hb dX4_perform_1 (by decide) ?_
  refine va_gets (v := .ref (cy G 43)) C.1.1 C.1.2.1 C.2.2.2.2.2.2.2.2.2.1.1 hS C.1.2.2.2.1 (C.1.2.2.2.2 _ (mc qw_813)) (fun _ h => h) dX4_perform_7 ?_
  refine lv_aload_n hx hb dX4_perform_10 rfl (lv_at hl 1 rfl) ?_
  refine g_calli (va_runU (As := []) (rest := [.ref (cy G 43)]) C.1 (cOrd_ok l G X 5 (by decide)) (va_cwU 0 C.1.2.2.2.2 gOrd rfl rfl rfl rfl (by decide +kernel) ⟨Nat.le_of_ble_eq_true rfl, Nat.le_of_ble_eq_true rfl⟩) ⟨Kp.blind, va_recvE (E := "Foundry$Command") C.2.2.2.2.2.2.2.1 (i := 5) (by decide) hS, (g_pre C hW hS _).2⟩ rfl rfl hl.1 rfl (lv_room (Nat.le_of_ble_eq_true rfl)) dX4_perform_11 ⟨Nat.zero_le _, Nat.zero_le _⟩) hS (fun r_1 Y_2 H_4 locs_5 hW_6 hS_7 h_3 => ?_)
  obtain ⟨h_3, hy_8⟩ := h_3
  replace hy_8 := hy_8.symm
  subst hy_8
  subst h_3
  refine va_ti (v := .int 6) C.1.1 C.1.2.1 C.2.2.2.2.2.2.2.2.2.1.2 hS_7 (vlit (by decide)) (by rfl) dX4_perform_14 ?_
  refine lv_tableIn (tgt := 106) hx hb dX4_perform_15 (by decide) (by decide) rfl (by decide) ?_
  refine lv_aload_n hx hb dX4_perform_106 rfl (lv_at hl 0 rfl) ?_
  refine lv_iload_n hx hb dX4_perform_107 rfl (lv_at hl 2 rfl) ?_
  refine g_calli (va_runV (As := [.int a]) (rest := []) C.1 (cX4_placeMould_ok l G X n hp hi a) (cwV 1 C.1.2.2.2.2 (gV qw_880 qw_882 qw_9 qw_72 qw_883) rfl rfl rfl (by decide +kernel) ⟨Nat.le_of_ble_eq_true rfl, Nat.le_of_ble_eq_true rfl⟩) (g_rPlant C hW_6 hS_7 hp [.int a]) rfl rfl hl.1 rfl (lv_room (Nat.le_of_ble_eq_true rfl)) dX4_perform_108 ⟨Nat.zero_le _, Nat.zero_le _⟩) hS_7 (fun r_10 Y_11 H_12 locs_13 hW_14 hS_15 h_9 => ?_)
  obtain ⟨h_16, h_9⟩ := h_9
  subst h_16
  obtain ⟨w_17, ew_17⟩ : ∃ Z9, Z9 = (placeMouldR (X.1 n) a).2 := ⟨_, rfl⟩
  have hW_18 : Wd G (setRow X n w_17) H_12 := Wd.cast (by rw [h_9, ew_17]) hW_14
  exact g_iret C hr hlk hW_18 hS_15 dX4_perform_111 (by subst ew_17; exact ⟨rfl, rfl⟩)

set_option maxHeartbeats 4000000 in
set_option maxRecDepth 100000 in
theorem cX4_perform6_ok (l : Launch) (G : GT) (X : St) (n : Nat) (hp : n < 11) (hi : PInv (X.1 n)) (a b c_ : Int32) : MetI l G yX4_perform (wsG yX4_perform cX4_perform 5 (some .int)) (rmz 3 72) [.ref (ad G (65 * n + 0)), .ref (cy G (20 + 6)), .int a, .int b, .int c_] X (fun res Y => res = (performR 6 (X.1 n) a b c_).1 ∧ Y = setRow X n (performR 6 (X.1 n) a b c_).2) := by
  refine g_met (cc := cX4_perform) (maxL := 5) (ret := (some .int)) (by decide) rfl (Nat.le_of_ble_eq_true rfl) ?_
  intro p e s m below meth c ls C hr hlk hnm hW hl
  have hx := C.1.1
  have hb := C.1.2.1
  have hS : va_S (Ab G) s.heap s.heap [] := va_S.rf
  have hl : lv_has ls 5 [(0, .ref (ad G (65 * n + 0))), (1, .ref (cy G (20 + 6))), (2, .int a), (3, .int b), (4, .int c_)] := hl
  refine lv_aload_n hx hb dX4_perform_0 rfl (lv_at hl 1 rfl) ?_
  refine lv_ifnonnull (tgt := 7) hx hb dX4_perform_1 (by decide) ?_
  refine va_gets (v := .ref (cy G 43)) C.1.1 C.1.2.1 C.2.2.2.2.2.2.2.2.2.1.1 hS C.1.2.2.2.1 (C.1.2.2.2.2 _ (mc qw_813)) (fun _ h => h) dX4_perform_7 ?_
  refine lv_aload_n hx hb dX4_perform_10 rfl (lv_at hl 1 rfl) ?_
  refine g_calli (va_runU (As := []) (rest := [.ref (cy G 43)]) C.1 (cOrd_ok l G X 6 (by decide)) (va_cwU 0 C.1.2.2.2.2 gOrd rfl rfl rfl rfl (by decide +kernel) ⟨Nat.le_of_ble_eq_true rfl, Nat.le_of_ble_eq_true rfl⟩) ⟨Kp.blind, va_recvE (E := "Foundry$Command") C.2.2.2.2.2.2.2.1 (i := 6) (by decide) hS, (g_pre C hW hS _).2⟩ rfl rfl hl.1 rfl (lv_room (Nat.le_of_ble_eq_true rfl)) dX4_perform_11 ⟨Nat.zero_le _, Nat.zero_le _⟩) hS (fun r_1 Y_2 H_4 locs_5 hW_6 hS_7 h_3 => ?_)
  obtain ⟨h_3, hy_8⟩ := h_3
  replace hy_8 := hy_8.symm
  subst hy_8
  subst h_3
  refine va_ti (v := .int 7) C.1.1 C.1.2.1 C.2.2.2.2.2.2.2.2.2.1.2 hS_7 (vlit (by decide)) (by rfl) dX4_perform_14 ?_
  refine lv_tableIn (tgt := 112) hx hb dX4_perform_15 (by decide) (by decide) rfl (by decide) ?_
  refine lv_aload_n hx hb dX4_perform_112 rfl (lv_at hl 0 rfl) ?_
  refine lv_iload_n hx hb dX4_perform_113 rfl (lv_at hl 2 rfl) ?_
  refine lv_iload_n hx hb dX4_perform_114 rfl (lv_at hl 3 rfl) ?_
  refine g_calli (va_runV (As := [.int a, .int b]) (rest := []) C.1 (cX4_cast_ok l G X n hp hi a b) (cwV 2 C.1.2.2.2.2 (gV qw_884 qw_886 qw_10 qw_72 qw_887) rfl rfl rfl (by decide +kernel) ⟨Nat.le_of_ble_eq_true rfl, Nat.le_of_ble_eq_true rfl⟩) (g_rPlant C hW_6 hS_7 hp [.int a, .int b]) rfl rfl hl.1 rfl (lv_room (Nat.le_of_ble_eq_true rfl)) dX4_perform_115 ⟨Nat.zero_le _, Nat.zero_le _⟩) hS_7 (fun r_10 Y_11 H_12 locs_13 hW_14 hS_15 h_9 => ?_)
  obtain ⟨h_16, h_9⟩ := h_9
  subst h_16
  obtain ⟨w_17, ew_17⟩ : ∃ Z9, Z9 = (castR (X.1 n) a b).2 := ⟨_, rfl⟩
  have hW_18 : Wd G (setRow X n w_17) H_12 := Wd.cast (by rw [h_9, ew_17]) hW_14
  exact g_iret C hr hlk hW_18 hS_15 dX4_perform_118 (by subst ew_17; exact ⟨rfl, rfl⟩)

set_option maxHeartbeats 4000000 in
set_option maxRecDepth 100000 in
theorem cX4_perform7_ok (l : Launch) (G : GT) (X : St) (n : Nat) (hp : n < 11) (hi : PInv (X.1 n)) (a b c_ : Int32) : MetI l G yX4_perform (wsG yX4_perform cX4_perform 5 (some .int)) (rmz 3 242) [.ref (ad G (65 * n + 0)), .ref (cy G (20 + 7)), .int a, .int b, .int c_] X (fun res Y => res = (performR 7 (X.1 n) a b c_).1 ∧ Y = setRow X n (performR 7 (X.1 n) a b c_).2) := by
  refine g_met (cc := cX4_perform) (maxL := 5) (ret := (some .int)) (by decide) rfl (Nat.le_of_ble_eq_true rfl) ?_
  intro p e s m below meth c ls C hr hlk hnm hW hl
  have hx := C.1.1
  have hb := C.1.2.1
  have hS : va_S (Ab G) s.heap s.heap [] := va_S.rf
  have hl : lv_has ls 5 [(0, .ref (ad G (65 * n + 0))), (1, .ref (cy G (20 + 7))), (2, .int a), (3, .int b), (4, .int c_)] := hl
  refine lv_aload_n hx hb dX4_perform_0 rfl (lv_at hl 1 rfl) ?_
  refine lv_ifnonnull (tgt := 7) hx hb dX4_perform_1 (by decide) ?_
  refine va_gets (v := .ref (cy G 43)) C.1.1 C.1.2.1 C.2.2.2.2.2.2.2.2.2.1.1 hS C.1.2.2.2.1 (C.1.2.2.2.2 _ (mc qw_813)) (fun _ h => h) dX4_perform_7 ?_
  refine lv_aload_n hx hb dX4_perform_10 rfl (lv_at hl 1 rfl) ?_
  refine g_calli (va_runU (As := []) (rest := [.ref (cy G 43)]) C.1 (cOrd_ok l G X 7 (by decide)) (va_cwU 0 C.1.2.2.2.2 gOrd rfl rfl rfl rfl (by decide +kernel) ⟨Nat.le_of_ble_eq_true rfl, Nat.le_of_ble_eq_true rfl⟩) ⟨Kp.blind, va_recvE (E := "Foundry$Command") C.2.2.2.2.2.2.2.1 (i := 7) (by decide) hS, (g_pre C hW hS _).2⟩ rfl rfl hl.1 rfl (lv_room (Nat.le_of_ble_eq_true rfl)) dX4_perform_11 ⟨Nat.zero_le _, Nat.zero_le _⟩) hS (fun r_1 Y_2 H_4 locs_5 hW_6 hS_7 h_3 => ?_)
  obtain ⟨h_3, hy_8⟩ := h_3
  replace hy_8 := hy_8.symm
  subst hy_8
  subst h_3
  refine va_ti (v := .int 8) C.1.1 C.1.2.1 C.2.2.2.2.2.2.2.2.2.1.2 hS_7 (vlit (by decide)) (by rfl) dX4_perform_14 ?_
  refine lv_tableIn (tgt := 119) hx hb dX4_perform_15 (by decide) (by decide) rfl (by decide) ?_
  refine lv_aload_n hx hb dX4_perform_119 rfl (lv_at hl 0 rfl) ?_
  refine lv_iload_n hx hb dX4_perform_120 rfl (lv_at hl 2 rfl) ?_
  refine g_calli (va_runV (As := [.int a]) (rest := []) C.1 (cX4_knockOut_ok l G X n hp hi a) (cwV 1 C.1.2.2.2.2 (gV qw_888 qw_890 qw_11 qw_72 qw_891) rfl rfl rfl (by decide +kernel) ⟨Nat.le_of_ble_eq_true rfl, Nat.le_of_ble_eq_true rfl⟩) (g_rPlant C hW_6 hS_7 hp [.int a]) rfl rfl hl.1 rfl (lv_room (Nat.le_of_ble_eq_true rfl)) dX4_perform_121 ⟨Nat.zero_le _, Nat.zero_le _⟩) hS_7 (fun r_10 Y_11 H_12 locs_13 hW_14 hS_15 h_9 => ?_)
  obtain ⟨h_16, h_9⟩ := h_9
  subst h_16
  obtain ⟨w_17, ew_17⟩ : ∃ Z9, Z9 = (knockOutR (X.1 n) a).2 := ⟨_, rfl⟩
  have hW_18 : Wd G (setRow X n w_17) H_12 := Wd.cast (by rw [h_9, ew_17]) hW_14
  exact g_iret C hr hlk hW_18 hS_15 dX4_perform_124 (by subst ew_17; exact ⟨rfl, rfl⟩)

set_option maxHeartbeats 4000000 in
set_option maxRecDepth 100000 in
theorem cX4_perform8_ok (l : Launch) (G : GT) (X : St) (n : Nat) (hp : n < 11) (hi : PInv (X.1 n)) (a b c_ : Int32) : MetI l G yX4_perform (wsG yX4_perform cX4_perform 5 (some .int)) (rmz 3 246) [.ref (ad G (65 * n + 0)), .ref (cy G (20 + 8)), .int a, .int b, .int c_] X (fun res Y => res = (performR 8 (X.1 n) a b c_).1 ∧ Y = setRow X n (performR 8 (X.1 n) a b c_).2) := by
  refine g_met (cc := cX4_perform) (maxL := 5) (ret := (some .int)) (by decide) rfl (Nat.le_of_ble_eq_true rfl) ?_
  intro p e s m below meth c ls C hr hlk hnm hW hl
  have hx := C.1.1
  have hb := C.1.2.1
  have hS : va_S (Ab G) s.heap s.heap [] := va_S.rf
  have hl : lv_has ls 5 [(0, .ref (ad G (65 * n + 0))), (1, .ref (cy G (20 + 8))), (2, .int a), (3, .int b), (4, .int c_)] := hl
  refine lv_aload_n hx hb dX4_perform_0 rfl (lv_at hl 1 rfl) ?_
  refine lv_ifnonnull (tgt := 7) hx hb dX4_perform_1 (by decide) ?_
  refine va_gets (v := .ref (cy G 43)) C.1.1 C.1.2.1 C.2.2.2.2.2.2.2.2.2.1.1 hS C.1.2.2.2.1 (C.1.2.2.2.2 _ (mc qw_813)) (fun _ h => h) dX4_perform_7 ?_
  refine lv_aload_n hx hb dX4_perform_10 rfl (lv_at hl 1 rfl) ?_
  refine g_calli (va_runU (As := []) (rest := [.ref (cy G 43)]) C.1 (cOrd_ok l G X 8 (by decide)) (va_cwU 0 C.1.2.2.2.2 gOrd rfl rfl rfl rfl (by decide +kernel) ⟨Nat.le_of_ble_eq_true rfl, Nat.le_of_ble_eq_true rfl⟩) ⟨Kp.blind, va_recvE (E := "Foundry$Command") C.2.2.2.2.2.2.2.1 (i := 8) (by decide) hS, (g_pre C hW hS _).2⟩ rfl rfl hl.1 rfl (lv_room (Nat.le_of_ble_eq_true rfl)) dX4_perform_11 ⟨Nat.zero_le _, Nat.zero_le _⟩) hS (fun r_1 Y_2 H_4 locs_5 hW_6 hS_7 h_3 => ?_)
  obtain ⟨h_3, hy_8⟩ := h_3
  replace hy_8 := hy_8.symm
  subst hy_8
  subst h_3
  refine va_ti (v := .int 9) C.1.1 C.1.2.1 C.2.2.2.2.2.2.2.2.2.1.2 hS_7 (vlit (by decide)) (by rfl) dX4_perform_14 ?_
  refine lv_tableIn (tgt := 125) hx hb dX4_perform_15 (by decide) (by decide) rfl (by decide) ?_
  refine lv_aload_n hx hb dX4_perform_125 rfl (lv_at hl 0 rfl) ?_
  refine lv_iload_n hx hb dX4_perform_126 rfl (lv_at hl 2 rfl) ?_
  refine lv_iload_n hx hb dX4_perform_127 rfl (lv_at hl 3 rfl) ?_
  refine g_calli (va_runV (As := [.int a, .int b]) (rest := []) C.1 (cX4_remelt_ok l G X n hp hi a b) (cwV 2 C.1.2.2.2.2 (gV qw_892 qw_894 qw_12 qw_72 qw_895) rfl rfl rfl (by decide +kernel) ⟨Nat.le_of_ble_eq_true rfl, Nat.le_of_ble_eq_true rfl⟩) (g_rPlant C hW_6 hS_7 hp [.int a, .int b]) rfl rfl hl.1 rfl (lv_room (Nat.le_of_ble_eq_true rfl)) dX4_perform_128 ⟨Nat.zero_le _, Nat.zero_le _⟩) hS_7 (fun r_10 Y_11 H_12 locs_13 hW_14 hS_15 h_9 => ?_)
  obtain ⟨h_16, h_9⟩ := h_9
  subst h_16
  obtain ⟨w_17, ew_17⟩ : ∃ Z9, Z9 = (remeltR (X.1 n) a b).2 := ⟨_, rfl⟩
  have hW_18 : Wd G (setRow X n w_17) H_12 := Wd.cast (by rw [h_9, ew_17]) hW_14
  exact g_iret C hr hlk hW_18 hS_15 dX4_perform_131 (by subst ew_17; exact ⟨rfl, rfl⟩)

set_option maxHeartbeats 4000000 in
set_option maxRecDepth 100000 in
theorem cX4_perform9_ok (l : Launch) (G : GT) (X : St) (n : Nat) (hp : n < 11) (hi : PInv (X.1 n)) (a b c_ : Int32) : MetI l G yX4_perform (wsG yX4_perform cX4_perform 5 (some .int)) (rmz 4 85) [.ref (ad G (65 * n + 0)), .ref (cy G (20 + 9)), .int a, .int b, .int c_] X (fun res Y => res = (performR 9 (X.1 n) a b c_).1 ∧ Y = setRow X n (performR 9 (X.1 n) a b c_).2) := by
  refine g_met (cc := cX4_perform) (maxL := 5) (ret := (some .int)) (by decide) rfl (Nat.le_of_ble_eq_true rfl) ?_
  intro p e s m below meth c ls C hr hlk hnm hW hl
  have hx := C.1.1
  have hb := C.1.2.1
  have hS : va_S (Ab G) s.heap s.heap [] := va_S.rf
  have hl : lv_has ls 5 [(0, .ref (ad G (65 * n + 0))), (1, .ref (cy G (20 + 9))), (2, .int a), (3, .int b), (4, .int c_)] := hl
  refine lv_aload_n hx hb dX4_perform_0 rfl (lv_at hl 1 rfl) ?_
  refine lv_ifnonnull (tgt := 7) hx hb dX4_perform_1 (by decide) ?_
  refine va_gets (v := .ref (cy G 43)) C.1.1 C.1.2.1 C.2.2.2.2.2.2.2.2.2.1.1 hS C.1.2.2.2.1 (C.1.2.2.2.2 _ (mc qw_813)) (fun _ h => h) dX4_perform_7 ?_
  refine lv_aload_n hx hb dX4_perform_10 rfl (lv_at hl 1 rfl) ?_
  refine g_calli (va_runU (As := []) (rest := [.ref (cy G 43)]) C.1 (cOrd_ok l G X 9 (by decide)) (va_cwU 0 C.1.2.2.2.2 gOrd rfl rfl rfl rfl (by decide +kernel) ⟨Nat.le_of_ble_eq_true rfl, Nat.le_of_ble_eq_true rfl⟩) ⟨Kp.blind, va_recvE (E := "Foundry$Command") C.2.2.2.2.2.2.2.1 (i := 9) (by decide) hS, (g_pre C hW hS _).2⟩ rfl rfl hl.1 rfl (lv_room (Nat.le_of_ble_eq_true rfl)) dX4_perform_11 ⟨Nat.zero_le _, Nat.zero_le _⟩) hS (fun r_1 Y_2 H_4 locs_5 hW_6 hS_7 h_3 => ?_)
  obtain ⟨h_3, hy_8⟩ := h_3
  replace hy_8 := hy_8.symm
  subst hy_8
  subst h_3
  refine va_ti (v := .int 10) C.1.1 C.1.2.1 C.2.2.2.2.2.2.2.2.2.1.2 hS_7 (vlit (by decide)) (by rfl) dX4_perform_14 ?_
  refine lv_tableIn (tgt := 132) hx hb dX4_perform_15 (by decide) (by decide) rfl (by decide) ?_
  refine lv_aload_n hx hb dX4_perform_132 rfl (lv_at hl 0 rfl) ?_
  refine lv_iload_n hx hb dX4_perform_133 rfl (lv_at hl 2 rfl) ?_
  refine g_calli (va_runV (As := [.int a]) (rest := []) C.1 (cX4_pass_ok l G X n hp a) (cwV 1 C.1.2.2.2.2 (gV qw_896 qw_898 qw_13 qw_72 qw_899) rfl rfl rfl (by decide +kernel) ⟨Nat.le_of_ble_eq_true rfl, Nat.le_of_ble_eq_true rfl⟩) (g_rPlant C hW_6 hS_7 hp [.int a]) rfl rfl hl.1 rfl (lv_room (Nat.le_of_ble_eq_true rfl)) dX4_perform_134 ⟨Nat.zero_le _, Nat.zero_le _⟩) hS_7 (fun r_10 Y_11 H_12 locs_13 hW_14 hS_15 h_9 => ?_)
  obtain ⟨h_16, h_9⟩ := h_9
  subst h_16
  obtain ⟨w_17, ew_17⟩ : ∃ Z9, Z9 = (passR (X.1 n) a).2 := ⟨_, rfl⟩
  have hW_18 : Wd G (setRow X n w_17) H_12 := Wd.cast (by rw [h_9, ew_17]) hW_14
  exact g_iret C hr hlk hW_18 hS_15 dX4_perform_137 (by subst ew_17; exact ⟨rfl, rfl⟩)
