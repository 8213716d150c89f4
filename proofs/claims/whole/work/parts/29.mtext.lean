/-! The reference: its line, its script's letters, undo, snapshot, and the changes. -/
theorem uu8 {w : Nat → Int32} {a b : Int32} : upd (upd w (8) a) (8) b = upd w (8) b := by
  funext j
  by_cases e : j = 8
  · subst e
    rw [pk_us, pk_us]
  · rw [pk_un e, pk_un e, pk_un e]
def wnR (p : Nat → Int32) (n v : Nat) : Nat → Int32 :=
  if v < 10 then upd p (n) (nI (48 + v / 1 % 10))
  else if v < 100 then upd (upd p (n) (nI (48 + v / 10 % 10))) (n + 1) (nI (48 + v / 1 % 10))
  else if v < 1000 then upd (upd (upd p (n) (nI (48 + v / 100 % 10))) (n + 1) (nI (48 + v / 10 % 10))) (n + 1 + 1) (nI (48 + v / 1 % 10))
  else upd (upd (upd (upd p (n) (nI (48 + v / 1000 % 10))) (n + 1) (nI (48 + v / 100 % 10))) (n + 1 + 1) (nI (48 + v / 10 % 10))) (n + 1 + 1 + 1) (nI (48 + v / 1 % 10))
theorem wnR_1 {p : Nat → Int32} {n v : Nat} (_h : 0 ≤ v) (h2 : v < 10) : wnR p n v = upd p (n) (nI (48 + v / 1 % 10)) := if_pos h2
theorem wnR_2 {p : Nat → Int32} {n v : Nat} (h : 10 ≤ v) (h2 : v < 100) : wnR p n v = upd (upd p (n) (nI (48 + v / 10 % 10))) (n + 1) (nI (48 + v / 1 % 10)) := (if_neg (show ¬ v < 10 by omega)).trans (if_pos h2)
theorem wnR_3 {p : Nat → Int32} {n v : Nat} (h : 100 ≤ v) (h2 : v < 1000) : wnR p n v = upd (upd (upd p (n) (nI (48 + v / 100 % 10))) (n + 1) (nI (48 + v / 10 % 10))) (n + 1 + 1) (nI (48 + v / 1 % 10)) := (if_neg (show ¬ v < 10 by omega)).trans ((if_neg (show ¬ v < 100 by omega)).trans (if_pos h2))
theorem wnR_4 {p : Nat → Int32} {n v : Nat} (h : 1000 ≤ v) (_h2 : v < 10000) : wnR p n v = upd (upd (upd (upd p (n) (nI (48 + v / 1000 % 10))) (n + 1) (nI (48 + v / 100 % 10))) (n + 1 + 1) (nI (48 + v / 10 % 10))) (n + 1 + 1 + 1) (nI (48 + v / 1 % 10)) := (if_neg (show ¬ v < 10 by omega)).trans ((if_neg (show ¬ v < 100 by omega)).trans (if_neg (show ¬ v < 1000 by omega)))
theorem sbd_1 {v : Nat} (_h : 0 ≤ v) (h2 : v < 10) : sb_dg v = 1 := if_pos h2
theorem sbd_2 {v : Nat} (h : 10 ≤ v) (h2 : v < 100) : sb_dg v = 1 + 1 := (if_neg (show ¬ v < 10 by omega)).trans (if_pos h2)
theorem sbd_3 {v : Nat} (h : 100 ≤ v) (h2 : v < 1000) : sb_dg v = 1 + 1 + 1 := (if_neg (show ¬ v < 10 by omega)).trans ((if_neg (show ¬ v < 100 by omega)).trans (if_pos h2))
theorem sbd_4 {v : Nat} (h : 1000 ≤ v) (h2 : v < 10000) : sb_dg v = 1 + 1 + 1 + 1 := sb_dg4 h h2
def rmM (x j : Int32) (z : Nat × (Nat → Int32)) : Nat × (Nat → Int32) := if x = 0 then z else (z.1 + 1 + sb_dg x.toNatClampNeg, wnR (upd z.2 z.1 (oM_letter j)) (z.1 + 1) x.toNatClampNeg)
def rmS (w : Nat → Int32) (i : Nat) (b : Nat → Int32) : Nat × (Nat → Int32) :=
  ((rmM (w (i + 3)) 3 (rmM (w (i + 2)) 2 (rmM (w (i + 1)) 1 (rmM (w i) 0 (0, b))))).1 + 1 + sb_dg (w (i + 4)).toNatClampNeg, wnR (upd (rmM (w (i + 3)) 3 (rmM (w (i + 2)) 2 (rmM (w (i + 1)) 1 (rmM (w i) 0 (0, b))))).2 (rmM (w (i + 3)) 3 (rmM (w (i + 2)) 2 (rmM (w (i + 1)) 1 (rmM (w i) 0 (0, b))))).1 64) ((rmM (w (i + 3)) 3 (rmM (w (i + 2)) 2 (rmM (w (i + 1)) 1 (rmM (w i) 0 (0, b))))).1 + 1) (w (i + 4)).toNatClampNeg)
def grM (w b : Nat → Int32) : Nat → (Nat → Int32)
  | 0 => b
  | k + 1 => upd (grM w b k) k (oM_gradeOf w k)
theorem kc_charges {w15 w16 w20 : Nat → Int32} {a b c : Int32} {j : Nat} (h : j ≠ 0 := by decide) : (oM_charges w15 w16 w20 a b c).2.1 j = w15 j := by
  have e : ∀ x, (oM_fail w15 x).2 j = w15 j := fun x => pk_un h
  unfold oM_charges
  repeat' split
  all_goals first | rfl | exact e _
theorem kc_fires {w15 w16 : Nat → Int32} {a b : Int32} {j : Nat} (h : j ≠ 0 := by decide) : (oM_fires w15 w16 a b).2.1 j = w15 j := by
  have e : ∀ x, (oM_fail w15 x).2 j = w15 j := fun x => pk_un h
  unfold oM_fires
  repeat' split
  all_goals first | rfl | exact e _
theorem kc_skims {w15 w16 w21 : Nat → Int32} {a : Int32} {j : Nat} (h : j ≠ 0 := by decide) : (oM_skims w15 w16 w21 a).2.1 j = w15 j := by
  have e : ∀ x, (oM_fail w15 x).2 j = w15 j := fun x => pk_un h
  unfold oM_skims
  repeat' split
  all_goals first | rfl | exact e _
theorem kc_taps {w15 w16 w20 w21 : Nat → Int32} {a b c : Int32} {j : Nat} (h : j ≠ 0 := by decide) : (oM_taps w15 w16 w20 w21 a b c).2.1 j = w15 j := by
  have e : ∀ x, (oM_fail w15 x).2 j = w15 j := fun x => pk_un h
  unfold oM_taps
  repeat' split
  all_goals first | rfl | exact e _
theorem kc_backs {w15 w16 w20 : Nat → Int32} {a b : Int32} {j : Nat} (h : j ≠ 0 := by decide) : (oM_backs w15 w16 w20 a b).2.1 j = w15 j := by
  have e : ∀ x, (oM_fail w15 x).2 j = w15 j := fun x => pk_un h
  unfold oM_backs
  repeat' split
  all_goals first | rfl | exact e _
theorem kc_addsMould {w15 w16 : Nat → Int32} {a : Int32} {j : Nat} (h : j ≠ 0 := by decide) : (oM_addsMould w15 w16 a).2.1 j = w15 j := by
  have e : ∀ x, (oM_fail w15 x).2 j = w15 j := fun x => pk_un h
  unfold oM_addsMould
  repeat' split
  all_goals first | rfl | exact e _
theorem kc_pours {w15 w16 w20 w21 : Nat → Int32} {a b : Int32} {j : Nat} (h : j ≠ 0 := by decide) : (oM_pours w15 w16 w20 w21 a b).2.1 j = w15 j := by
  have e : ∀ x, (oM_fail w15 x).2 j = w15 j := fun x => pk_un h
  unfold oM_pours
  repeat' split
  all_goals first | rfl | exact e _
theorem kc_breaks {w15 w16 : Nat → Int32} {a : Int32} {j : Nat} (h : j ≠ 0 := by decide) : (oM_breaks w15 w16 a).2.1 j = w15 j := by
  have e : ∀ x, (oM_fail w15 x).2 j = w15 j := fun x => pk_un h
  unfold oM_breaks
  repeat' split
  all_goals first | rfl | exact e _
theorem kc_melts {w15 w16 w20 : Nat → Int32} {a b : Int32} {j : Nat} (h : j ≠ 0 := by decide) : (oM_melts w15 w16 w20 a b).2.1 j = w15 j := by
  have e : ∀ x, (oM_fail w15 x).2 j = w15 j := fun x => pk_un h
  unfold oM_melts
  repeat' split
  all_goals first | rfl | exact e _
theorem kc_passes {w15 w16 w21 : Nat → Int32} {a : Int32} {j : Nat} (h : j ≠ 0 := by decide) : (oM_passes w15 w16 w21 a).2.1 j = w15 j := by
  have e : ∀ x, (oM_fail w15 x).2 j = w15 j := fun x => pk_un h
  unfold oM_passes
  repeat' split
  all_goals first | rfl | exact e _
set_option maxHeartbeats 4000000 in
set_option maxRecDepth 100000 in
theorem cX8_writes_ok (l : Launch) (G : GT) (X : St) (n : Nat) (hn : n < 40) (en : X.1 15 8 = nI n) (x : Int32) : MetV l G yX8_writes (wsG yX8_writes cX8_writes 2 none) (rmz 0 0) [.ref (ad G 723), .int x] X (fun Y => Y = setRow (setRow X 15 (upd (X.1 15) (8) (nI (n + 1)))) 23 (upd (X.1 23) (n) x)) := by
  refine g_met (cc := cX8_writes) (maxL := 2) (ret := none) (by decide) rfl (Nat.le_of_ble_eq_true rfl) ?_
  intro p e s m below meth c ls C hr hlk hnm hW hl
  have hx := C.1.1
  have hb := C.1.2.1
  have hS : va_S (Ab G) s.heap s.heap [] := va_S.rf
  have hl : lv_has ls 2 [(0, .ref (ad G 723)), (1, .int x)] := hl
  have hW : Wd G (setRow (setRow (X) 15 (X.1 15)) 23 (X.1 23)) s.heap := Wd.cast (((sr_same (X := setRow (X) 15 (X.1 15)) (r := 23) rfl).trans (sr_same (X := X) (r := 15) rfl))).symm hW
  refine lv_aload_n hx hb dX8_writes_0 rfl (lv_at hl 0 rfl) ?_
  refine gM_line C hW (hwc hwX8) (mc qw_1488) dX8_writes_1 ?_
  refine lv_aload_n hx hb dX8_writes_4 rfl (lv_at hl 0 rfl) ?_
  refine gM_lineN C hW (hwc hwX8) (mc qw_1495) dX8_writes_5 ?_
  refine g_top (y := X.1 15 (8)) (congrFun (rd_in (by decide) rd_out) _) ?_
  refine g_top (y := nI n) en ?_
  refine lv_iload_n hx hb dX8_writes_8 rfl (lv_at hl 1 rfl) ?_
  refine gm_linest C hW hS n (nI_clamp (by omega)) (vp_in_nI (show n < 40 by omega) (by decide)) dX8_writes_9 (fun H_1 locs_2 hW_3 hS_4 => ?_)
  obtain ⟨w_5, ew_5⟩ : ∃ Z9, Z9 = upd (X.1 23) (n) x := ⟨_, rfl⟩
  have hW_6 : Wd G (setRow (setRow X 15 (X.1 15)) 23 w_5) H_1 := Wd.cast (by rw [ew_5]; exact st_out) hW_3
  refine lv_aload_n hx hb dX8_writes_10 rfl (lv_at hl 0 rfl) ?_
  refine lv_dup hx hb dX8_writes_11 rfl ?_
  refine gM_lineN C hW_6 (hwc hwX8) (mc qw_1495) dX8_writes_12 ?_
  refine g_top (y := X.1 15 (8)) (congrFun (rd_in (by decide) rd_out) _) ?_
  refine g_top (y := nI n) en ?_
  refine lv_iconst (v := 1) hx hb dX8_writes_15 (by decide) ?_
  refine lv_iadd hx hb dX8_writes_16 ?_
  refine g_top (y := nI (n + 1)) (nI_add n 1) ?_
  refine gM_lineNP C hW_6 hS_4 (hwc hwX8) (mc qw_1495) dX8_writes_17 (fun H_7 locs_8 hW_9 hS_10 => ?_)
  obtain ⟨w_11, ew_11⟩ : ∃ Z9, Z9 = upd (X.1 15) (8) (nI (n + 1)) := ⟨_, rfl⟩
  have kn_12 : w_11 (8) = nI (n + 1) := by rw [ew_11]; exact pk_us
  have hW_13 : Wd G (setRow (setRow X 15 w_11) 23 w_5) H_7 := Wd.cast (by rw [ew_11]; exact (st_in (by decide) st_out)) hW_9
  exact g_vret C hr hlk hW_13 hS_10 dX8_writes_20 (by subst ew_11; subst ew_5; rfl)

set_option maxHeartbeats 4000000 in
set_option maxRecDepth 100000 in
theorem cX8_writesNumber1_ok (l : Launch) (G : GT) (X : St) (n : Nat) (hn : n + 4 < 40) (en : X.1 15 8 = nI n) (v : Nat) (hv1 : 0 ≤ v) (hv2 : v < 10) : MetV l G yX8_writesNumber (wsG yX8_writesNumber cX8_writesNumber 3 none) (rmz 1 21) [.ref (ad G 723), .int (nI v)] X (fun Y => Y = setRow (setRow X 15 (upd (X.1 15) (8) (nI (n + sb_dg v)))) 23 (wnR (X.1 23) n v)) := by
  refine g_met (cc := cX8_writesNumber) (maxL := 3) (ret := none) (by decide) rfl (Nat.le_of_ble_eq_true rfl) ?_
  intro p e s m below meth c ls C hr hlk hnm hW hl
  have hx := C.1.1
  have hb := C.1.2.1
  have hS : va_S (Ab G) s.heap s.heap [] := va_S.rf
  have hl : lv_has ls 3 [(0, .ref (ad G 723)), (1, .int (nI v))] := hl
  have hW : Wd G (setRow (setRow (X) 15 (X.1 15)) 23 (X.1 23)) s.heap := Wd.cast (((sr_same (X := setRow (X) 15 (X.1 15)) (r := 23) rfl).trans (sr_same (X := X) (r := 15) rfl))).symm hW
  refine lv_iconst (v := 1) hx hb dX8_writesNumber_0 (by decide) ?_
  refine lv_istore_n (lv' := [(2, .int 1), (0, .ref (ad G 723)), (1, .int (nI v))]) hx hb dX8_writesNumber_1 rfl hl (by decide) rfl (fun ls_1 hl_2 => ?_)
  refine lv_iload_n hx hb dX8_writesNumber_2 rfl (lv_at hl_2 2 rfl) ?_
  refine lv_iload_n hx hb dX8_writesNumber_3 rfl (lv_at hl_2 0 rfl) ?_
  refine lv_idiv hx hb dX8_writesNumber_4 (by decide) ?_
  refine g_top (y := nI (v / 1)) (pk_div (a := v) (d := 1) (by omega) (by decide) (by decide)) ?_
  refine lv_bipush (v := 10) hx hb dX8_writesNumber_5 (by decide) ?_
  refine lv_icmp_lt (tgt := 18) hx hb dX8_writesNumber_7 (by decide) (fun _ => ?_) (fun h9 => absurd ((nI_ltI (a := v / 1) (b := 10) (by omega) (by decide)).mpr (by omega)) h9)
  refine lv_iload_n hx hb dX8_writesNumber_18 rfl (lv_at hl_2 0 rfl) ?_
  refine lv_if_le (tgt := 43) hx hb dX8_writesNumber_19 (by decide) (fun h9 => absurd h9 (by decide)) (fun _ => ?_)
  refine lv_aload_n hx hb dX8_writesNumber_22 rfl (lv_at hl_2 1 rfl) ?_
  refine lv_bipush (v := 48) hx hb dX8_writesNumber_23 (by decide) ?_
  refine lv_iload_n hx hb dX8_writesNumber_25 rfl (lv_at hl_2 2 rfl) ?_
  refine lv_iload_n hx hb dX8_writesNumber_26 rfl (lv_at hl_2 0 rfl) ?_
  refine lv_idiv hx hb dX8_writesNumber_27 (by decide) ?_
  refine g_top (y := nI (v / 1)) (pk_div (a := v) (d := 1) (by omega) (by decide) (by decide)) ?_
  refine lv_bipush (v := 10) hx hb dX8_writesNumber_28 (by decide) ?_
  refine lv_irem hx hb dX8_writesNumber_30 (by decide) ?_
  refine g_top (y := nI ((v / 1) % 10)) (pk_rem (a := v / 1) (d := 10) (by omega) (by decide) (by decide)) ?_
  refine lv_iadd hx hb dX8_writesNumber_31 ?_
  refine g_top (y := nI (48 + ((v / 1) % 10))) (nI_add 48 ((v / 1) % 10)) ?_
  refine g_callv (va_runV (As := [.int (nI (48 + ((v / 1) % 10)))]) (rest := []) C.1 (cX8_writes_ok l G (setRow (setRow X 15 (X.1 15)) 23 (X.1 23)) n (show n < 40 by omega) en (nI (48 + ((v / 1) % 10)))) (cwV 1 C.1.2.2.2.2 (gV qw_1863 qw_1865 qw_59 qw_81 qw_1866) rfl rfl rfl (by decide +kernel) ⟨Nat.le_of_ble_eq_true rfl, Nat.le_of_ble_eq_true rfl⟩) (g_rModel C hW hS [.int (nI (48 + ((v / 1) % 10)))]) rfl rfl hl_2.1 rfl (lv_room (Nat.le_of_ble_eq_true rfl)) dX8_writesNumber_32 ⟨Nat.zero_le _, Nat.zero_le _⟩) hS (fun Y_4 H_5 locs_6 hW_7 hS_8 h_3 => ?_)
  replace h_3 : Y_4 = setRow (setRow (setRow (setRow X 15 (X.1 15)) 23 (X.1 23)) 15 (upd (X.1 15) (8) (nI (n + 1)))) 23 (upd (X.1 23) (n) (nI (48 + ((v / 1) % 10)))) := h_3
  obtain ⟨w_9, ew_9⟩ : ∃ Z9, Z9 = upd (X.1 15) (8) (nI (n + 1)) := ⟨_, rfl⟩
  obtain ⟨w_10, ew_10⟩ : ∃ Z9, Z9 = upd (X.1 23) (n) (nI (48 + ((v / 1) % 10))) := ⟨_, rfl⟩
  have qqw_9 : Y_4 = setRow (setRow (setRow (setRow X 15 (X.1 15)) 23 (X.1 23)) 15 w_9) 23 w_10 := by rw [h_3, ew_9, ew_10]
  have hW_11 : Wd G (setRow (setRow X 15 w_9) 23 w_10) H_5 := Wd.cast (((qqw_9).trans (congrArg (fun Z9 => setRow (Z9) 23 w_10) (sr_in (by decide) sr_out))).trans (congrArg (fun Z9 => Z9) sr_out)) hW_7
  have kn_12 : w_9 (8) = nI (n + 1) := by rw [ew_9]; exact pk_us
  refine lv_iload_n hx hb dX8_writesNumber_35 rfl (lv_at hl_2 0 rfl) ?_
  refine lv_bipush (v := 10) hx hb dX8_writesNumber_36 (by decide) ?_
  refine lv_idiv hx hb dX8_writesNumber_38 (by decide) ?_
  refine g_top (y := 0) (by decide) ?_
  refine lv_istore_n (lv' := [(2, .int 0), (0, .ref (ad G 723)), (1, .int (nI v))]) hx hb dX8_writesNumber_39 rfl hl_2 (by decide) rfl (fun ls_13 hl_14 => ?_)
  refine lv_goto (tgt := 18) hx hb dX8_writesNumber_40 (by decide) ?_
  refine lv_iload_n hx hb dX8_writesNumber_18 rfl (lv_at hl_14 0 rfl) ?_
  refine lv_if_le (tgt := 43) hx hb dX8_writesNumber_19 (by decide) (fun _ => ?_) (fun h9 => absurd h9 (by decide))
  exact g_vret C hr hlk hW_11 hS_8 dX8_writesNumber_43 (by subst ew_10; subst ew_9; rw [wnR_1 hv1 hv2, sbd_1 hv1 hv2]; (try simp only [uu8]); (try rfl))

set_option maxHeartbeats 4000000 in
set_option maxRecDepth 100000 in
theorem cX8_writesNumber2_ok (l : Launch) (G : GT) (X : St) (n : Nat) (hn : n + 4 < 40) (en : X.1 15 8 = nI n) (v : Nat) (hv1 : 10 ≤ v) (hv2 : v < 100) : MetV l G yX8_writesNumber (wsG yX8_writesNumber cX8_writesNumber 3 none) (rmz 1 21) [.ref (ad G 723), .int (nI v)] X (fun Y => Y = setRow (setRow X 15 (upd (X.1 15) (8) (nI (n + sb_dg v)))) 23 (wnR (X.1 23) n v)) := by
  refine g_met (cc := cX8_writesNumber) (maxL := 3) (ret := none) (by decide) rfl (Nat.le_of_ble_eq_true rfl) ?_
  intro p e s m below meth c ls C hr hlk hnm hW hl
  have hx := C.1.1
  have hb := C.1.2.1
  have hS : va_S (Ab G) s.heap s.heap [] := va_S.rf
  have hl : lv_has ls 3 [(0, .ref (ad G 723)), (1, .int (nI v))] := hl
  have hW : Wd G (setRow (setRow (X) 15 (X.1 15)) 23 (X.1 23)) s.heap := Wd.cast (((sr_same (X := setRow (X) 15 (X.1 15)) (r := 23) rfl).trans (sr_same (X := X) (r := 15) rfl))).symm hW
  refine lv_iconst (v := 1) hx hb dX8_writesNumber_0 (by decide) ?_
  refine lv_istore_n (lv' := [(2, .int 1), (0, .ref (ad G 723)), (1, .int (nI v))]) hx hb dX8_writesNumber_1 rfl hl (by decide) rfl (fun ls_1 hl_2 => ?_)
  refine lv_iload_n hx hb dX8_writesNumber_2 rfl (lv_at hl_2 2 rfl) ?_
  refine lv_iload_n hx hb dX8_writesNumber_3 rfl (lv_at hl_2 0 rfl) ?_
  refine lv_idiv hx hb dX8_writesNumber_4 (by decide) ?_
  refine g_top (y := nI (v / 1)) (pk_div (a := v) (d := 1) (by omega) (by decide) (by decide)) ?_
  refine lv_bipush (v := 10) hx hb dX8_writesNumber_5 (by decide) ?_
  refine lv_icmp_lt (tgt := 18) hx hb dX8_writesNumber_7 (by decide) (fun h9 => absurd h9 (fun q9 => absurd ((nI_ltI (a := v / 1) (b := 10) (by omega) (by decide)).mp q9) (by omega))) (fun _ => ?_)
  refine lv_iload_n hx hb dX8_writesNumber_10 rfl (lv_at hl_2 0 rfl) ?_
  refine lv_bipush (v := 10) hx hb dX8_writesNumber_11 (by decide) ?_
  refine lv_imul hx hb dX8_writesNumber_13 ?_
  refine g_top (y := 10) (by decide) ?_
  refine lv_istore_n (lv' := [(2, .int 10), (0, .ref (ad G 723)), (1, .int (nI v))]) hx hb dX8_writesNumber_14 rfl hl_2 (by decide) rfl (fun ls_3 hl_4 => ?_)
  refine lv_goto (tgt := 2) hx hb dX8_writesNumber_15 (by decide) ?_
  refine lv_iload_n hx hb dX8_writesNumber_2 rfl (lv_at hl_4 2 rfl) ?_
  refine lv_iload_n hx hb dX8_writesNumber_3 rfl (lv_at hl_4 0 rfl) ?_
  refine lv_idiv hx hb dX8_writesNumber_4 (by decide) ?_
  refine g_top (y := nI (v / 10)) (pk_div (a := v) (d := 10) (by omega) (by decide) (by decide)) ?_
  refine lv_bipush (v := 10) hx hb dX8_writesNumber_5 (by decide) ?_
  refine lv_icmp_lt (tgt := 18) hx hb dX8_writesNumber_7 (by decide) (fun _ => ?_) (fun h9 => absurd ((nI_ltI (a := v / 10) (b := 10) (by omega) (by decide)).mpr (by omega)) h9)
  refine lv_iload_n hx hb dX8_writesNumber_18 rfl (lv_at hl_4 0 rfl) ?_
  refine lv_if_le (tgt := 43) hx hb dX8_writesNumber_19 (by decide) (fun h9 => absurd h9 (by decide)) (fun _ => ?_)
  refine lv_aload_n hx hb dX8_writesNumber_22 rfl (lv_at hl_4 1 rfl) ?_
  refine lv_bipush (v := 48) hx hb dX8_writesNumber_23 (by decide) ?_
  refine lv_iload_n hx hb dX8_writesNumber_25 rfl (lv_at hl_4 2 rfl) ?_
  refine lv_iload_n hx hb dX8_writesNumber_26 rfl (lv_at hl_4 0 rfl) ?_
  refine lv_idiv hx hb dX8_writesNumber_27 (by decide) ?_
  refine g_top (y := nI (v / 10)) (pk_div (a := v) (d := 10) (by omega) (by decide) (by decide)) ?_
  refine lv_bipush (v := 10) hx hb dX8_writesNumber_28 (by decide) ?_
  refine lv_irem hx hb dX8_writesNumber_30 (by decide) ?_
  refine g_top (y := nI ((v / 10) % 10)) (pk_rem (a := v / 10) (d := 10) (by omega) (by decide) (by decide)) ?_
  refine lv_iadd hx hb dX8_writesNumber_31 ?_
  refine g_top (y := nI (48 + ((v / 10) % 10))) (nI_add 48 ((v / 10) % 10)) ?_
  refine g_callv (va_runV (As := [.int (nI (48 + ((v / 10) % 10)))]) (rest := []) C.1 (cX8_writes_ok l G (setRow (setRow X 15 (X.1 15)) 23 (X.1 23)) n (show n < 40 by omega) en (nI (48 + ((v / 10) % 10)))) (cwV 1 C.1.2.2.2.2 (gV qw_1863 qw_1865 qw_59 qw_81 qw_1866) rfl rfl rfl (by decide +kernel) ⟨Nat.le_of_ble_eq_true rfl, Nat.le_of_ble_eq_true rfl⟩) (g_rModel C hW hS [.int (nI (48 + ((v / 10) % 10)))]) rfl rfl hl_4.1 rfl (lv_room (Nat.le_of_ble_eq_true rfl)) dX8_writesNumber_32 ⟨Nat.zero_le _, Nat.zero_le _⟩) hS (fun Y_6 H_7 locs_8 hW_9 hS_10 h_5 => ?_)
  replace h_5 : Y_6 = setRow (setRow (setRow (setRow X 15 (X.1 15)) 23 (X.1 23)) 15 (upd (X.1 15) (8) (nI (n + 1)))) 23 (upd (X.1 23) (n) (nI (48 + ((v / 10) % 10)))) := h_5
  obtain ⟨w_11, ew_11⟩ : ∃ Z9, Z9 = upd (X.1 15) (8) (nI (n + 1)) := ⟨_, rfl⟩
  obtain ⟨w_12, ew_12⟩ : ∃ Z9, Z9 = upd (X.1 23) (n) (nI (48 + ((v / 10) % 10))) := ⟨_, rfl⟩
  have qqw_11 : Y_6 = setRow (setRow (setRow (setRow X 15 (X.1 15)) 23 (X.1 23)) 15 w_11) 23 w_12 := by rw [h_5, ew_11, ew_12]
  have hW_13 : Wd G (setRow (setRow X 15 w_11) 23 w_12) H_7 := Wd.cast (((qqw_11).trans (congrArg (fun Z9 => setRow (Z9) 23 w_12) (sr_in (by decide) sr_out))).trans (congrArg (fun Z9 => Z9) sr_out)) hW_9
  have kn_14 : w_11 (8) = nI (n + 1) := by rw [ew_11]; exact pk_us
  refine lv_iload_n hx hb dX8_writesNumber_35 rfl (lv_at hl_4 0 rfl) ?_
  refine lv_bipush (v := 10) hx hb dX8_writesNumber_36 (by decide) ?_
  refine lv_idiv hx hb dX8_writesNumber_38 (by decide) ?_
  refine g_top (y := 1) (by decide) ?_
  refine lv_istore_n (lv' := [(2, .int 1), (0, .ref (ad G 723)), (1, .int (nI v))]) hx hb dX8_writesNumber_39 rfl hl_4 (by decide) rfl (fun ls_15 hl_16 => ?_)
  refine lv_goto (tgt := 18) hx hb dX8_writesNumber_40 (by decide) ?_
  refine lv_iload_n hx hb dX8_writesNumber_18 rfl (lv_at hl_16 0 rfl) ?_
  refine lv_if_le (tgt := 43) hx hb dX8_writesNumber_19 (by decide) (fun h9 => absurd h9 (by decide)) (fun _ => ?_)
  refine lv_aload_n hx hb dX8_writesNumber_22 rfl (lv_at hl_16 1 rfl) ?_
  refine lv_bipush (v := 48) hx hb dX8_writesNumber_23 (by decide) ?_
  refine lv_iload_n hx hb dX8_writesNumber_25 rfl (lv_at hl_16 2 rfl) ?_
  refine lv_iload_n hx hb dX8_writesNumber_26 rfl (lv_at hl_16 0 rfl) ?_
  refine lv_idiv hx hb dX8_writesNumber_27 (by decide) ?_
  refine g_top (y := nI (v / 1)) (pk_div (a := v) (d := 1) (by omega) (by decide) (by decide)) ?_
  refine lv_bipush (v := 10) hx hb dX8_writesNumber_28 (by decide) ?_
  refine lv_irem hx hb dX8_writesNumber_30 (by decide) ?_
  refine g_top (y := nI ((v / 1) % 10)) (pk_rem (a := v / 1) (d := 10) (by omega) (by decide) (by decide)) ?_
  refine lv_iadd hx hb dX8_writesNumber_31 ?_
  refine g_top (y := nI (48 + ((v / 1) % 10))) (nI_add 48 ((v / 1) % 10)) ?_
  refine g_callv (va_runV (As := [.int (nI (48 + ((v / 1) % 10)))]) (rest := []) C.1 (cX8_writes_ok l G (setRow (setRow X 15 w_11) 23 w_12) (n + 1) (show n + 1 < 40 by omega) kn_14 (nI (48 + ((v / 1) % 10)))) (cwV 1 C.1.2.2.2.2 (gV qw_1863 qw_1865 qw_59 qw_81 qw_1866) rfl rfl rfl (by decide +kernel) ⟨Nat.le_of_ble_eq_true rfl, Nat.le_of_ble_eq_true rfl⟩) (g_rModel C hW_13 hS_10 [.int (nI (48 + ((v / 1) % 10)))]) rfl rfl hl_16.1 rfl (lv_room (Nat.le_of_ble_eq_true rfl)) dX8_writesNumber_32 ⟨Nat.zero_le _, Nat.zero_le _⟩) hS_10 (fun Y_18 H_19 locs_20 hW_21 hS_22 h_17 => ?_)
  replace h_17 : Y_18 = setRow (setRow (setRow (setRow X 15 w_11) 23 w_12) 15 (upd w_11 (8) (nI (n + 1 + 1)))) 23 (upd w_12 (n + 1) (nI (48 + ((v / 1) % 10)))) := h_17
  obtain ⟨w_23, ew_23⟩ : ∃ Z9, Z9 = upd w_11 (8) (nI (n + 1 + 1)) := ⟨_, rfl⟩
  obtain ⟨w_24, ew_24⟩ : ∃ Z9, Z9 = upd w_12 (n + 1) (nI (48 + ((v / 1) % 10))) := ⟨_, rfl⟩
  have qqw_23 : Y_18 = setRow (setRow (setRow (setRow X 15 w_11) 23 w_12) 15 w_23) 23 w_24 := by rw [h_17, ew_23, ew_24]
  have hW_25 : Wd G (setRow (setRow X 15 w_23) 23 w_24) H_19 := Wd.cast (((qqw_23).trans (congrArg (fun Z9 => setRow (Z9) 23 w_24) (sr_in (by decide) sr_out))).trans (congrArg (fun Z9 => Z9) sr_out)) hW_21
  have kn_26 : w_23 (8) = nI (n + 1 + 1) := by rw [ew_23]; exact pk_us
  refine lv_iload_n hx hb dX8_writesNumber_35 rfl (lv_at hl_16 0 rfl) ?_
  refine lv_bipush (v := 10) hx hb dX8_writesNumber_36 (by decide) ?_
  refine lv_idiv hx hb dX8_writesNumber_38 (by decide) ?_
  refine g_top (y := 0) (by decide) ?_
  refine lv_istore_n (lv' := [(2, .int 0), (0, .ref (ad G 723)), (1, .int (nI v))]) hx hb dX8_writesNumber_39 rfl hl_16 (by decide) rfl (fun ls_27 hl_28 => ?_)
  refine lv_goto (tgt := 18) hx hb dX8_writesNumber_40 (by decide) ?_
  refine lv_iload_n hx hb dX8_writesNumber_18 rfl (lv_at hl_28 0 rfl) ?_
  refine lv_if_le (tgt := 43) hx hb dX8_writesNumber_19 (by decide) (fun _ => ?_) (fun h9 => absurd h9 (by decide))
  exact g_vret C hr hlk hW_25 hS_22 dX8_writesNumber_43 (by subst ew_24; subst ew_23; subst ew_12; subst ew_11; rw [wnR_2 hv1 hv2, sbd_2 hv1 hv2]; (try simp only [uu8]); (try rfl))

set_option maxHeartbeats 4000000 in
set_option maxRecDepth 100000 in
theorem cX8_writesNumber3_ok (l : Launch) (G : GT) (X : St) (n : Nat) (hn : n + 4 < 40) (en : X.1 15 8 = nI n) (v : Nat) (hv1 : 100 ≤ v) (hv2 : v < 1000) : MetV l G yX8_writesNumber (wsG yX8_writesNumber cX8_writesNumber 3 none) (rmz 1 21) [.ref (ad G 723), .int (nI v)] X (fun Y => Y = setRow (setRow X 15 (upd (X.1 15) (8) (nI (n + sb_dg v)))) 23 (wnR (X.1 23) n v)) := by
  refine g_met (cc := cX8_writesNumber) (maxL := 3) (ret := none) (by decide) rfl (Nat.le_of_ble_eq_true rfl) ?_
  intro p e s m below meth c ls C hr hlk hnm hW hl
  have hx := C.1.1
  have hb := C.1.2.1
  have hS : va_S (Ab G) s.heap s.heap [] := va_S.rf
  have hl : lv_has ls 3 [(0, .ref (ad G 723)), (1, .int (nI v))] := hl
  have hW : Wd G (setRow (setRow (X) 15 (X.1 15)) 23 (X.1 23)) s.heap := Wd.cast (((sr_same (X := setRow (X) 15 (X.1 15)) (r := 23) rfl).trans (sr_same (X := X) (r := 15) rfl))).symm hW
  refine lv_iconst (v := 1) hx hb dX8_writesNumber_0 (by decide) ?_
  refine lv_istore_n (lv' := [(2, .int 1), (0, .ref (ad G 723)), (1, .int (nI v))]) hx hb dX8_writesNumber_1 rfl hl (by decide) rfl (fun ls_1 hl_2 => ?_)
  refine lv_iload_n hx hb dX8_writesNumber_2 rfl (lv_at hl_2 2 rfl) ?_
  refine lv_iload_n hx hb dX8_writesNumber_3 rfl (lv_at hl_2 0 rfl) ?_
  refine lv_idiv hx hb dX8_writesNumber_4 (by decide) ?_
  refine g_top (y := nI (v / 1)) (pk_div (a := v) (d := 1) (by omega) (by decide) (by decide)) ?_
  refine lv_bipush (v := 10) hx hb dX8_writesNumber_5 (by decide) ?_
  refine lv_icmp_lt (tgt := 18) hx hb dX8_writesNumber_7 (by decide) (fun h9 => absurd h9 (fun q9 => absurd ((nI_ltI (a := v / 1) (b := 10) (by omega) (by decide)).mp q9) (by omega))) (fun _ => ?_)
  refine lv_iload_n hx hb dX8_writesNumber_10 rfl (lv_at hl_2 0 rfl) ?_
  refine lv_bipush (v := 10) hx hb dX8_writesNumber_11 (by decide) ?_
  refine lv_imul hx hb dX8_writesNumber_13 ?_
  refine g_top (y := 10) (by decide) ?_
  refine lv_istore_n (lv' := [(2, .int 10), (0, .ref (ad G 723)), (1, .int (nI v))]) hx hb dX8_writesNumber_14 rfl hl_2 (by decide) rfl (fun ls_3 hl_4 => ?_)
  refine lv_goto (tgt := 2) hx hb dX8_writesNumber_15 (by decide) ?_
  refine lv_iload_n hx hb dX8_writesNumber_2 rfl (lv_at hl_4 2 rfl) ?_
  refine lv_iload_n hx hb dX8_writesNumber_3 rfl (lv_at hl_4 0 rfl) ?_
  refine lv_idiv hx hb dX8_writesNumber_4 (by decide) ?_
  refine g_top (y := nI (v / 10)) (pk_div (a := v) (d := 10) (by omega) (by decide) (by decide)) ?_
  refine lv_bipush (v := 10) hx hb dX8_writesNumber_5 (by decide) ?_
  refine lv_icmp_lt (tgt := 18) hx hb dX8_writesNumber_7 (by decide) (fun h9 => absurd h9 (fun q9 => absurd ((nI_ltI (a := v / 10) (b := 10) (by omega) (by decide)).mp q9) (by omega))) (fun _ => ?_)
  refine lv_iload_n hx hb dX8_writesNumber_10 rfl (lv_at hl_4 0 rfl) ?_
  refine lv_bipush (v := 10) hx hb dX8_writesNumber_11 (by decide) ?_
  refine lv_imul hx hb dX8_writesNumber_13 ?_
  refine g_top (y := 100) (by decide) ?_
  refine lv_istore_n (lv' := [(2, .int 100), (0, .ref (ad G 723)), (1, .int (nI v))]) hx hb dX8_writesNumber_14 rfl hl_4 (by decide) rfl (fun ls_5 hl_6 => ?_)
  refine lv_goto (tgt := 2) hx hb dX8_writesNumber_15 (by decide) ?_
  refine lv_iload_n hx hb dX8_writesNumber_2 rfl (lv_at hl_6 2 rfl) ?_
  refine lv_iload_n hx hb dX8_writesNumber_3 rfl (lv_at hl_6 0 rfl) ?_
  refine lv_idiv hx hb dX8_writesNumber_4 (by decide) ?_
  refine g_top (y := nI (v / 100)) (pk_div (a := v) (d := 100) (by omega) (by decide) (by decide)) ?_
  refine lv_bipush (v := 10) hx hb dX8_writesNumber_5 (by decide) ?_
  refine lv_icmp_lt (tgt := 18) hx hb dX8_writesNumber_7 (by decide) (fun _ => ?_) (fun h9 => absurd ((nI_ltI (a := v / 100) (b := 10) (by omega) (by decide)).mpr (by omega)) h9)
  refine lv_iload_n hx hb dX8_writesNumber_18 rfl (lv_at hl_6 0 rfl) ?_
  refine lv_if_le (tgt := 43) hx hb dX8_writesNumber_19 (by decide) (fun h9 => absurd h9 (by decide)) (fun _ => ?_)
  refine lv_aload_n hx hb dX8_writesNumber_22 rfl (lv_at hl_6 1 rfl) ?_
  refine lv_bipush (v := 48) hx hb dX8_writesNumber_23 (by decide) ?_
  refine lv_iload_n hx hb dX8_writesNumber_25 rfl (lv_at hl_6 2 rfl) ?_
  refine lv_iload_n hx hb dX8_writesNumber_26 rfl (lv_at hl_6 0 rfl) ?_
  refine lv_idiv hx hb dX8_writesNumber_27 (by decide) ?_
  refine g_top (y := nI (v / 100)) (pk_div (a := v) (d := 100) (by omega) (by decide) (by decide)) ?_
  refine lv_bipush (v := 10) hx hb dX8_writesNumber_28 (by decide) ?_
  refine lv_irem hx hb dX8_writesNumber_30 (by decide) ?_
  refine g_top (y := nI ((v / 100) % 10)) (pk_rem (a := v / 100) (d := 10) (by omega) (by decide) (by decide)) ?_
  refine lv_iadd hx hb dX8_writesNumber_31 ?_
  refine g_top (y := nI (48 + ((v / 100) % 10))) (nI_add 48 ((v / 100) % 10)) ?_
  refine g_callv (va_runV (As := [.int (nI (48 + ((v / 100) % 10)))]) (rest := []) C.1 (cX8_writes_ok l G (setRow (setRow X 15 (X.1 15)) 23 (X.1 23)) n (show n < 40 by omega) en (nI (48 + ((v / 100) % 10)))) (cwV 1 C.1.2.2.2.2 (gV qw_1863 qw_1865 qw_59 qw_81 qw_1866) rfl rfl rfl (by decide +kernel) ⟨Nat.le_of_ble_eq_true rfl, Nat.le_of_ble_eq_true rfl⟩) (g_rModel C hW hS [.int (nI (48 + ((v / 100) % 10)))]) rfl rfl hl_6.1 rfl (lv_room (Nat.le_of_ble_eq_true rfl)) dX8_writesNumber_32 ⟨Nat.zero_le _, Nat.zero_le _⟩) hS (fun Y_8 H_9 locs_10 hW_11 hS_12 h_7 => ?_)
  replace h_7 : Y_8 = setRow (setRow (setRow (setRow X 15 (X.1 15)) 23 (X.1 23)) 15 (upd (X.1 15) (8) (nI (n + 1)))) 23 (upd (X.1 23) (n) (nI (48 + ((v / 100) % 10)))) := h_7
  obtain ⟨w_13, ew_13⟩ : ∃ Z9, Z9 = upd (X.1 15) (8) (nI (n + 1)) := ⟨_, rfl⟩
  obtain ⟨w_14, ew_14⟩ : ∃ Z9, Z9 = upd (X.1 23) (n) (nI (48 + ((v / 100) % 10))) := ⟨_, rfl⟩
  have qqw_13 : Y_8 = setRow (setRow (setRow (setRow X 15 (X.1 15)) 23 (X.1 23)) 15 w_13) 23 w_14 := by rw [h_7, ew_13, ew_14]
  have hW_15 : Wd G (setRow (setRow X 15 w_13) 23 w_14) H_9 := Wd.cast (((qqw_13).trans (congrArg (fun Z9 => setRow (Z9) 23 w_14) (sr_in (by decide) sr_out))).trans (congrArg (fun Z9 => Z9) sr_out)) hW_11
  have kn_16 : w_13 (8) = nI (n + 1) := by rw [ew_13]; exact pk_us
  refine lv_iload_n hx hb dX8_writesNumber_35 rfl (lv_at hl_6 0 rfl) ?_
  refine lv_bipush (v := 10) hx hb dX8_writesNumber_36 (by decide) ?_
  refine lv_idiv hx hb dX8_writesNumber_38 (by decide) ?_
  refine g_top (y := 10) (by decide) ?_
  refine lv_istore_n (lv' := [(2, .int 10), (0, .ref (ad G 723)), (1, .int (nI v))]) hx hb dX8_writesNumber_39 rfl hl_6 (by decide) rfl (fun ls_17 hl_18 => ?_)
  refine lv_goto (tgt := 18) hx hb dX8_writesNumber_40 (by decide) ?_
  refine lv_iload_n hx hb dX8_writesNumber_18 rfl (lv_at hl_18 0 rfl) ?_
  refine lv_if_le (tgt := 43) hx hb dX8_writesNumber_19 (by decide) (fun h9 => absurd h9 (by decide)) (fun _ => ?_)
  refine lv_aload_n hx hb dX8_writesNumber_22 rfl (lv_at hl_18 1 rfl) ?_
  refine lv_bipush (v := 48) hx hb dX8_writesNumber_23 (by decide) ?_
  refine lv_iload_n hx hb dX8_writesNumber_25 rfl (lv_at hl_18 2 rfl) ?_
  refine lv_iload_n hx hb dX8_writesNumber_26 rfl (lv_at hl_18 0 rfl) ?_
  refine lv_idiv hx hb dX8_writesNumber_27 (by decide) ?_
  refine g_top (y := nI (v / 10)) (pk_div (a := v) (d := 10) (by omega) (by decide) (by decide)) ?_
  refine lv_bipush (v := 10) hx hb dX8_writesNumber_28 (by decide) ?_
  refine lv_irem hx hb dX8_writesNumber_30 (by decide) ?_
  refine g_top (y := nI ((v / 10) % 10)) (pk_rem (a := v / 10) (d := 10) (by omega) (by decide) (by decide)) ?_
  refine lv_iadd hx hb dX8_writesNumber_31 ?_
  refine g_top (y := nI (48 + ((v / 10) % 10))) (nI_add 48 ((v / 10) % 10)) ?_
  refine g_callv (va_runV (As := [.int (nI (48 + ((v / 10) % 10)))]) (rest := []) C.1 (cX8_writes_ok l G (setRow (setRow X 15 w_13) 23 w_14) (n + 1) (show n + 1 < 40 by omega) kn_16 (nI (48 + ((v / 10) % 10)))) (cwV 1 C.1.2.2.2.2 (gV qw_1863 qw_1865 qw_59 qw_81 qw_1866) rfl rfl rfl (by decide +kernel) ⟨Nat.le_of_ble_eq_true rfl, Nat.le_of_ble_eq_true rfl⟩) (g_rModel C hW_15 hS_12 [.int (nI (48 + ((v / 10) % 10)))]) rfl rfl hl_18.1 rfl (lv_room (Nat.le_of_ble_eq_true rfl)) dX8_writesNumber_32 ⟨Nat.zero_le _, Nat.zero_le _⟩) hS_12 (fun Y_20 H_21 locs_22 hW_23 hS_24 h_19 => ?_)
  replace h_19 : Y_20 = setRow (setRow (setRow (setRow X 15 w_13) 23 w_14) 15 (upd w_13 (8) (nI (n + 1 + 1)))) 23 (upd w_14 (n + 1) (nI (48 + ((v / 10) % 10)))) := h_19
  obtain ⟨w_25, ew_25⟩ : ∃ Z9, Z9 = upd w_13 (8) (nI (n + 1 + 1)) := ⟨_, rfl⟩
  obtain ⟨w_26, ew_26⟩ : ∃ Z9, Z9 = upd w_14 (n + 1) (nI (48 + ((v / 10) % 10))) := ⟨_, rfl⟩
  have qqw_25 : Y_20 = setRow (setRow (setRow (setRow X 15 w_13) 23 w_14) 15 w_25) 23 w_26 := by rw [h_19, ew_25, ew_26]
  have hW_27 : Wd G (setRow (setRow X 15 w_25) 23 w_26) H_21 := Wd.cast (((qqw_25).trans (congrArg (fun Z9 => setRow (Z9) 23 w_26) (sr_in (by decide) sr_out))).trans (congrArg (fun Z9 => Z9) sr_out)) hW_23
  have kn_28 : w_25 (8) = nI (n + 1 + 1) := by rw [ew_25]; exact pk_us
  refine lv_iload_n hx hb dX8_writesNumber_35 rfl (lv_at hl_18 0 rfl) ?_
  refine lv_bipush (v := 10) hx hb dX8_writesNumber_36 (by decide) ?_
  refine lv_idiv hx hb dX8_writesNumber_38 (by decide) ?_
  refine g_top (y := 1) (by decide) ?_
  refine lv_istore_n (lv' := [(2, .int 1), (0, .ref (ad G 723)), (1, .int (nI v))]) hx hb dX8_writesNumber_39 rfl hl_18 (by decide) rfl (fun ls_29 hl_30 => ?_)
  refine lv_goto (tgt := 18) hx hb dX8_writesNumber_40 (by decide) ?_
  refine lv_iload_n hx hb dX8_writesNumber_18 rfl (lv_at hl_30 0 rfl) ?_
  refine lv_if_le (tgt := 43) hx hb dX8_writesNumber_19 (by decide) (fun h9 => absurd h9 (by decide)) (fun _ => ?_)
  refine lv_aload_n hx hb dX8_writesNumber_22 rfl (lv_at hl_30 1 rfl) ?_
  refine lv_bipush (v := 48) hx hb dX8_writesNumber_23 (by decide) ?_
  refine lv_iload_n hx hb dX8_writesNumber_25 rfl (lv_at hl_30 2 rfl) ?_
  refine lv_iload_n hx hb dX8_writesNumber_26 rfl (lv_at hl_30 0 rfl) ?_
  refine lv_idiv hx hb dX8_writesNumber_27 (by decide) ?_
  refine g_top (y := nI (v / 1)) (pk_div (a := v) (d := 1) (by omega) (by decide) (by decide)) ?_
  refine lv_bipush (v := 10) hx hb dX8_writesNumber_28 (by decide) ?_
  refine lv_irem hx hb dX8_writesNumber_30 (by decide) ?_
  refine g_top (y := nI ((v / 1) % 10)) (pk_rem (a := v / 1) (d := 10) (by omega) (by decide) (by decide)) ?_
  refine lv_iadd hx hb dX8_writesNumber_31 ?_
  refine g_top (y := nI (48 + ((v / 1) % 10))) (nI_add 48 ((v / 1) % 10)) ?_
  refine g_callv (va_runV (As := [.int (nI (48 + ((v / 1) % 10)))]) (rest := []) C.1 (cX8_writes_ok l G (setRow (setRow X 15 w_25) 23 w_26) (n + 1 + 1) (show n + 1 + 1 < 40 by omega) kn_28 (nI (48 + ((v / 1) % 10)))) (cwV 1 C.1.2.2.2.2 (gV qw_1863 qw_1865 qw_59 qw_81 qw_1866) rfl rfl rfl (by decide +kernel) ⟨Nat.le_of_ble_eq_true rfl, Nat.le_of_ble_eq_true rfl⟩) (g_rModel C hW_27 hS_24 [.int (nI (48 + ((v / 1) % 10)))]) rfl rfl hl_30.1 rfl (lv_room (Nat.le_of_ble_eq_true rfl)) dX8_writesNumber_32 ⟨Nat.zero_le _, Nat.zero_le _⟩) hS_24 (fun Y_32 H_33 locs_34 hW_35 hS_36 h_31 => ?_)
  replace h_31 : Y_32 = setRow (setRow (setRow (setRow X 15 w_25) 23 w_26) 15 (upd w_25 (8) (nI (n + 1 + 1 + 1)))) 23 (upd w_26 (n + 1 + 1) (nI (48 + ((v / 1) % 10)))) := h_31
  obtain ⟨w_37, ew_37⟩ : ∃ Z9, Z9 = upd w_25 (8) (nI (n + 1 + 1 + 1)) := ⟨_, rfl⟩
  obtain ⟨w_38, ew_38⟩ : ∃ Z9, Z9 = upd w_26 (n + 1 + 1) (nI (48 + ((v / 1) % 10))) := ⟨_, rfl⟩
  have qqw_37 : Y_32 = setRow (setRow (setRow (setRow X 15 w_25) 23 w_26) 15 w_37) 23 w_38 := by rw [h_31, ew_37, ew_38]
  have hW_39 : Wd G (setRow (setRow X 15 w_37) 23 w_38) H_33 := Wd.cast (((qqw_37).trans (congrArg (fun Z9 => setRow (Z9) 23 w_38) (sr_in (by decide) sr_out))).trans (congrArg (fun Z9 => Z9) sr_out)) hW_35
  have kn_40 : w_37 (8) = nI (n + 1 + 1 + 1) := by rw [ew_37]; exact pk_us
  refine lv_iload_n hx hb dX8_writesNumber_35 rfl (lv_at hl_30 0 rfl) ?_
  refine lv_bipush (v := 10) hx hb dX8_writesNumber_36 (by decide) ?_
  refine lv_idiv hx hb dX8_writesNumber_38 (by decide) ?_
  refine g_top (y := 0) (by decide) ?_
  refine lv_istore_n (lv' := [(2, .int 0), (0, .ref (ad G 723)), (1, .int (nI v))]) hx hb dX8_writesNumber_39 rfl hl_30 (by decide) rfl (fun ls_41 hl_42 => ?_)
  refine lv_goto (tgt := 18) hx hb dX8_writesNumber_40 (by decide) ?_
  refine lv_iload_n hx hb dX8_writesNumber_18 rfl (lv_at hl_42 0 rfl) ?_
  refine lv_if_le (tgt := 43) hx hb dX8_writesNumber_19 (by decide) (fun _ => ?_) (fun h9 => absurd h9 (by decide))
  exact g_vret C hr hlk hW_39 hS_36 dX8_writesNumber_43 (by subst ew_38; subst ew_37; subst ew_26; subst ew_25; subst ew_14; subst ew_13; rw [wnR_3 hv1 hv2, sbd_3 hv1 hv2]; (try simp only [uu8]); (try rfl))

set_option maxHeartbeats 4000000 in
set_option maxRecDepth 100000 in
theorem cX8_writesNumber4_ok (l : Launch) (G : GT) (X : St) (n : Nat) (hn : n + 4 < 40) (en : X.1 15 8 = nI n) (v : Nat) (hv1 : 1000 ≤ v) (hv2 : v < 10000) : MetV l G yX8_writesNumber (wsG yX8_writesNumber cX8_writesNumber 3 none) (rmz 1 21) [.ref (ad G 723), .int (nI v)] X (fun Y => Y = setRow (setRow X 15 (upd (X.1 15) (8) (nI (n + sb_dg v)))) 23 (wnR (X.1 23) n v)) := by
  refine g_met (cc := cX8_writesNumber) (maxL := 3) (ret := none) (by decide) rfl (Nat.le_of_ble_eq_true rfl) ?_
  intro p e s m below meth c ls C hr hlk hnm hW hl
  have hx := C.1.1
  have hb := C.1.2.1
  have hS : va_S (Ab G) s.heap s.heap [] := va_S.rf
  have hl : lv_has ls 3 [(0, .ref (ad G 723)), (1, .int (nI v))] := hl
  have hW : Wd G (setRow (setRow (X) 15 (X.1 15)) 23 (X.1 23)) s.heap := Wd.cast (((sr_same (X := setRow (X) 15 (X.1 15)) (r := 23) rfl).trans (sr_same (X := X) (r := 15) rfl))).symm hW
  refine lv_iconst (v := 1) hx hb dX8_writesNumber_0 (by decide) ?_
  refine lv_istore_n (lv' := [(2, .int 1), (0, .ref (ad G 723)), (1, .int (nI v))]) hx hb dX8_writesNumber_1 rfl hl (by decide) rfl (fun ls_1 hl_2 => ?_)
  refine lv_iload_n hx hb dX8_writesNumber_2 rfl (lv_at hl_2 2 rfl) ?_
  refine lv_iload_n hx hb dX8_writesNumber_3 rfl (lv_at hl_2 0 rfl) ?_
  refine lv_idiv hx hb dX8_writesNumber_4 (by decide) ?_
  refine g_top (y := nI (v / 1)) (pk_div (a := v) (d := 1) (by omega) (by decide) (by decide)) ?_
  refine lv_bipush (v := 10) hx hb dX8_writesNumber_5 (by decide) ?_
  refine lv_icmp_lt (tgt := 18) hx hb dX8_writesNumber_7 (by decide) (fun h9 => absurd h9 (fun q9 => absurd ((nI_ltI (a := v / 1) (b := 10) (by omega) (by decide)).mp q9) (by omega))) (fun _ => ?_)
  refine lv_iload_n hx hb dX8_writesNumber_10 rfl (lv_at hl_2 0 rfl) ?_
  refine lv_bipush (v := 10) hx hb dX8_writesNumber_11 (by decide) ?_
  refine lv_imul hx hb dX8_writesNumber_13 ?_
  refine g_top (y := 10) (by decide) ?_
  refine lv_istore_n (lv' := [(2, .int 10), (0, .ref (ad G 723)), (1, .int (nI v))]) hx hb dX8_writesNumber_14 rfl hl_2 (by decide) rfl (fun ls_3 hl_4 => ?_)
  refine lv_goto (tgt := 2) hx hb dX8_writesNumber_15 (by decide) ?_
  refine lv_iload_n hx hb dX8_writesNumber_2 rfl (lv_at hl_4 2 rfl) ?_
  refine lv_iload_n hx hb dX8_writesNumber_3 rfl (lv_at hl_4 0 rfl) ?_
  refine lv_idiv hx hb dX8_writesNumber_4 (by decide) ?_
  refine g_top (y := nI (v / 10)) (pk_div (a := v) (d := 10) (by omega) (by decide) (by decide)) ?_
  refine lv_bipush (v := 10) hx hb dX8_writesNumber_5 (by decide) ?_
  refine lv_icmp_lt (tgt := 18) hx hb dX8_writesNumber_7 (by decide) (fun h9 => absurd h9 (fun q9 => absurd ((nI_ltI (a := v / 10) (b := 10) (by omega) (by decide)).mp q9) (by omega))) (fun _ => ?_)
  refine lv_iload_n hx hb dX8_writesNumber_10 rfl (lv_at hl_4 0 rfl) ?_
  refine lv_bipush (v := 10) hx hb dX8_writesNumber_11 (by decide) ?_
  refine lv_imul hx hb dX8_writesNumber_13 ?_
  refine g_top (y := 100) (by decide) ?_
  refine lv_istore_n (lv' := [(2, .int 100), (0, .ref (ad G 723)), (1, .int (nI v))]) hx hb dX8_writesNumber_14 rfl hl_4 (by decide) rfl (fun ls_5 hl_6 => ?_)
  refine lv_goto (tgt := 2) hx hb dX8_writesNumber_15 (by decide) ?_
  refine lv_iload_n hx hb dX8_writesNumber_2 rfl (lv_at hl_6 2 rfl) ?_
  refine lv_iload_n hx hb dX8_writesNumber_3 rfl (lv_at hl_6 0 rfl) ?_
  refine lv_idiv hx hb dX8_writesNumber_4 (by decide) ?_
  refine g_top (y := nI (v / 100)) (pk_div (a := v) (d := 100) (by omega) (by decide) (by decide)) ?_
  refine lv_bipush (v := 10) hx hb dX8_writesNumber_5 (by decide) ?_
  refine lv_icmp_lt (tgt := 18) hx hb dX8_writesNumber_7 (by decide) (fun h9 => absurd h9 (fun q9 => absurd ((nI_ltI (a := v / 100) (b := 10) (by omega) (by decide)).mp q9) (by omega))) (fun _ => ?_)
  refine lv_iload_n hx hb dX8_writesNumber_10 rfl (lv_at hl_6 0 rfl) ?_
  refine lv_bipush (v := 10) hx hb dX8_writesNumber_11 (by decide) ?_
  refine lv_imul hx hb dX8_writesNumber_13 ?_
  refine g_top (y := 1000) (by decide) ?_
  refine lv_istore_n (lv' := [(2, .int 1000), (0, .ref (ad G 723)), (1, .int (nI v))]) hx hb dX8_writesNumber_14 rfl hl_6 (by decide) rfl (fun ls_7 hl_8 => ?_)
  refine lv_goto (tgt := 2) hx hb dX8_writesNumber_15 (by decide) ?_
  refine lv_iload_n hx hb dX8_writesNumber_2 rfl (lv_at hl_8 2 rfl) ?_
  refine lv_iload_n hx hb dX8_writesNumber_3 rfl (lv_at hl_8 0 rfl) ?_
  refine lv_idiv hx hb dX8_writesNumber_4 (by decide) ?_
  refine g_top (y := nI (v / 1000)) (pk_div (a := v) (d := 1000) (by omega) (by decide) (by decide)) ?_
  refine lv_bipush (v := 10) hx hb dX8_writesNumber_5 (by decide) ?_
  refine lv_icmp_lt (tgt := 18) hx hb dX8_writesNumber_7 (by decide) (fun _ => ?_) (fun h9 => absurd ((nI_ltI (a := v / 1000) (b := 10) (by omega) (by decide)).mpr (by omega)) h9)
  refine lv_iload_n hx hb dX8_writesNumber_18 rfl (lv_at hl_8 0 rfl) ?_
  refine lv_if_le (tgt := 43) hx hb dX8_writesNumber_19 (by decide) (fun h9 => absurd h9 (by decide)) (fun _ => ?_)
  refine lv_aload_n hx hb dX8_writesNumber_22 rfl (lv_at hl_8 1 rfl) ?_
  refine lv_bipush (v := 48) hx hb dX8_writesNumber_23 (by decide) ?_
  refine lv_iload_n hx hb dX8_writesNumber_25 rfl (lv_at hl_8 2 rfl) ?_
  refine lv_iload_n hx hb dX8_writesNumber_26 rfl (lv_at hl_8 0 rfl) ?_
  refine lv_idiv hx hb dX8_writesNumber_27 (by decide) ?_
  refine g_top (y := nI (v / 1000)) (pk_div (a := v) (d := 1000) (by omega) (by decide) (by decide)) ?_
  refine lv_bipush (v := 10) hx hb dX8_writesNumber_28 (by decide) ?_
  refine lv_irem hx hb dX8_writesNumber_30 (by decide) ?_
  refine g_top (y := nI ((v / 1000) % 10)) (pk_rem (a := v / 1000) (d := 10) (by omega) (by decide) (by decide)) ?_
  refine lv_iadd hx hb dX8_writesNumber_31 ?_
  refine g_top (y := nI (48 + ((v / 1000) % 10))) (nI_add 48 ((v / 1000) % 10)) ?_
  refine g_callv (va_runV (As := [.int (nI (48 + ((v / 1000) % 10)))]) (rest := []) C.1 (cX8_writes_ok l G (setRow (setRow X 15 (X.1 15)) 23 (X.1 23)) n (show n < 40 by omega) en (nI (48 + ((v / 1000) % 10)))) (cwV 1 C.1.2.2.2.2 (gV qw_1863 qw_1865 qw_59 qw_81 qw_1866) rfl rfl rfl (by decide +kernel) ⟨Nat.le_of_ble_eq_true rfl, Nat.le_of_ble_eq_true rfl⟩) (g_rModel C hW hS [.int (nI (48 + ((v / 1000) % 10)))]) rfl rfl hl_8.1 rfl (lv_room (Nat.le_of_ble_eq_true rfl)) dX8_writesNumber_32 ⟨Nat.zero_le _, Nat.zero_le _⟩) hS (fun Y_10 H_11 locs_12 hW_13 hS_14 h_9 => ?_)
  replace h_9 : Y_10 = setRow (setRow (setRow (setRow X 15 (X.1 15)) 23 (X.1 23)) 15 (upd (X.1 15) (8) (nI (n + 1)))) 23 (upd (X.1 23) (n) (nI (48 + ((v / 1000) % 10)))) := h_9
  obtain ⟨w_15, ew_15⟩ : ∃ Z9, Z9 = upd (X.1 15) (8) (nI (n + 1)) := ⟨_, rfl⟩
  obtain ⟨w_16, ew_16⟩ : ∃ Z9, Z9 = upd (X.1 23) (n) (nI (48 + ((v / 1000) % 10))) := ⟨_, rfl⟩
  have qqw_15 : Y_10 = setRow (setRow (setRow (setRow X 15 (X.1 15)) 23 (X.1 23)) 15 w_15) 23 w_16 := by rw [h_9, ew_15, ew_16]
  have hW_17 : Wd G (setRow (setRow X 15 w_15) 23 w_16) H_11 := Wd.cast (((qqw_15).trans (congrArg (fun Z9 => setRow (Z9) 23 w_16) (sr_in (by decide) sr_out))).trans (congrArg (fun Z9 => Z9) sr_out)) hW_13
  have kn_18 : w_15 (8) = nI (n + 1) := by rw [ew_15]; exact pk_us
  refine lv_iload_n hx hb dX8_writesNumber_35 rfl (lv_at hl_8 0 rfl) ?_
  refine lv_bipush (v := 10) hx hb dX8_writesNumber_36 (by decide) ?_
  refine lv_idiv hx hb dX8_writesNumber_38 (by decide) ?_
  refine g_top (y := 100) (by decide) ?_
  refine lv_istore_n (lv' := [(2, .int 100), (0, .ref (ad G 723)), (1, .int (nI v))]) hx hb dX8_writesNumber_39 rfl hl_8 (by decide) rfl (fun ls_19 hl_20 => ?_)
  refine lv_goto (tgt := 18) hx hb dX8_writesNumber_40 (by decide) ?_
  refine lv_iload_n hx hb dX8_writesNumber_18 rfl (lv_at hl_20 0 rfl) ?_
  refine lv_if_le (tgt := 43) hx hb dX8_writesNumber_19 (by decide) (fun h9 => absurd h9 (by decide)) (fun _ => ?_)
  refine lv_aload_n hx hb dX8_writesNumber_22 rfl (lv_at hl_20 1 rfl) ?_
  refine lv_bipush (v := 48) hx hb dX8_writesNumber_23 (by decide) ?_
  refine lv_iload_n hx hb dX8_writesNumber_25 rfl (lv_at hl_20 2 rfl) ?_
  refine lv_iload_n hx hb dX8_writesNumber_26 rfl (lv_at hl_20 0 rfl) ?_
  refine lv_idiv hx hb dX8_writesNumber_27 (by decide) ?_
  refine g_top (y := nI (v / 100)) (pk_div (a := v) (d := 100) (by omega) (by decide) (by decide)) ?_
  refine lv_bipush (v := 10) hx hb dX8_writesNumber_28 (by decide) ?_
  refine lv_irem hx hb dX8_writesNumber_30 (by decide) ?_
  refine g_top (y := nI ((v / 100) % 10)) (pk_rem (a := v / 100) (d := 10) (by omega) (by decide) (by decide)) ?_
  refine lv_iadd hx hb dX8_writesNumber_31 ?_
  refine g_top (y := nI (48 + ((v / 100) % 10))) (nI_add 48 ((v / 100) % 10)) ?_
  refine g_callv (va_runV (As := [.int (nI (48 + ((v / 100) % 10)))]) (rest := []) C.1 (cX8_writes_ok l G (setRow (setRow X 15 w_15) 23 w_16) (n + 1) (show n + 1 < 40 by omega) kn_18 (nI (48 + ((v / 100) % 10)))) (cwV 1 C.1.2.2.2.2 (gV qw_1863 qw_1865 qw_59 qw_81 qw_1866) rfl rfl rfl (by decide +kernel) ⟨Nat.le_of_ble_eq_true rfl, Nat.le_of_ble_eq_true rfl⟩) (g_rModel C hW_17 hS_14 [.int (nI (48 + ((v / 100) % 10)))]) rfl rfl hl_20.1 rfl (lv_room (Nat.le_of_ble_eq_true rfl)) dX8_writesNumber_32 ⟨Nat.zero_le _, Nat.zero_le _⟩) hS_14 (fun Y_22 H_23 locs_24 hW_25 hS_26 h_21 => ?_)
  replace h_21 : Y_22 = setRow (setRow (setRow (setRow X 15 w_15) 23 w_16) 15 (upd w_15 (8) (nI (n + 1 + 1)))) 23 (upd w_16 (n + 1) (nI (48 + ((v / 100) % 10)))) := h_21
  obtain ⟨w_27, ew_27⟩ : ∃ Z9, Z9 = upd w_15 (8) (nI (n + 1 + 1)) := ⟨_, rfl⟩
  obtain ⟨w_28, ew_28⟩ : ∃ Z9, Z9 = upd w_16 (n + 1) (nI (48 + ((v / 100) % 10))) := ⟨_, rfl⟩
  have qqw_27 : Y_22 = setRow (setRow (setRow (setRow X 15 w_15) 23 w_16) 15 w_27) 23 w_28 := by rw [h_21, ew_27, ew_28]
  have hW_29 : Wd G (setRow (setRow X 15 w_27) 23 w_28) H_23 := Wd.cast (((qqw_27).trans (congrArg (fun Z9 => setRow (Z9) 23 w_28) (sr_in (by decide) sr_out))).trans (congrArg (fun Z9 => Z9) sr_out)) hW_25
  have kn_30 : w_27 (8) = nI (n + 1 + 1) := by rw [ew_27]; exact pk_us
  refine lv_iload_n hx hb dX8_writesNumber_35 rfl (lv_at hl_20 0 rfl) ?_
  refine lv_bipush (v := 10) hx hb dX8_writesNumber_36 (by decide) ?_
  refine lv_idiv hx hb dX8_writesNumber_38 (by decide) ?_
  refine g_top (y := 10) (by decide) ?_
  refine lv_istore_n (lv' := [(2, .int 10), (0, .ref (ad G 723)), (1, .int (nI v))]) hx hb dX8_writesNumber_39 rfl hl_20 (by decide) rfl (fun ls_31 hl_32 => ?_)
  refine lv_goto (tgt := 18) hx hb dX8_writesNumber_40 (by decide) ?_
  refine lv_iload_n hx hb dX8_writesNumber_18 rfl (lv_at hl_32 0 rfl) ?_
  refine lv_if_le (tgt := 43) hx hb dX8_writesNumber_19 (by decide) (fun h9 => absurd h9 (by decide)) (fun _ => ?_)
  refine lv_aload_n hx hb dX8_writesNumber_22 rfl (lv_at hl_32 1 rfl) ?_
  refine lv_bipush (v := 48) hx hb dX8_writesNumber_23 (by decide) ?_
  refine lv_iload_n hx hb dX8_writesNumber_25 rfl (lv_at hl_32 2 rfl) ?_
  refine lv_iload_n hx hb dX8_writesNumber_26 rfl (lv_at hl_32 0 rfl) ?_
  refine lv_idiv hx hb dX8_writesNumber_27 (by decide) ?_
  refine g_top (y := nI (v / 10)) (pk_div (a := v) (d := 10) (by omega) (by decide) (by decide)) ?_
  refine lv_bipush (v := 10) hx hb dX8_writesNumber_28 (by decide) ?_
  refine lv_irem hx hb dX8_writesNumber_30 (by decide) ?_
  refine g_top (y := nI ((v / 10) % 10)) (pk_rem (a := v / 10) (d := 10) (by omega) (by decide) (by decide)) ?_
  refine lv_iadd hx hb dX8_writesNumber_31 ?_
  refine g_top (y := nI (48 + ((v / 10) % 10))) (nI_add 48 ((v / 10) % 10)) ?_
  refine g_callv (va_runV (As := [.int (nI (48 + ((v / 10) % 10)))]) (rest := []) C.1 (cX8_writes_ok l G (setRow (setRow X 15 w_27) 23 w_28) (n + 1 + 1) (show n + 1 + 1 < 40 by omega) kn_30 (nI (48 + ((v / 10) % 10)))) (cwV 1 C.1.2.2.2.2 (gV qw_1863 qw_1865 qw_59 qw_81 qw_1866) rfl rfl rfl (by decide +kernel) ⟨Nat.le_of_ble_eq_true rfl, Nat.le_of_ble_eq_true rfl⟩) (g_rModel C hW_29 hS_26 [.int (nI (48 + ((v / 10) % 10)))]) rfl rfl hl_32.1 rfl (lv_room (Nat.le_of_ble_eq_true rfl)) dX8_writesNumber_32 ⟨Nat.zero_le _, Nat.zero_le _⟩) hS_26 (fun Y_34 H_35 locs_36 hW_37 hS_38 h_33 => ?_)
  replace h_33 : Y_34 = setRow (setRow (setRow (setRow X 15 w_27) 23 w_28) 15 (upd w_27 (8) (nI (n + 1 + 1 + 1)))) 23 (upd w_28 (n + 1 + 1) (nI (48 + ((v / 10) % 10)))) := h_33
  obtain ⟨w_39, ew_39⟩ : ∃ Z9, Z9 = upd w_27 (8) (nI (n + 1 + 1 + 1)) := ⟨_, rfl⟩
  obtain ⟨w_40, ew_40⟩ : ∃ Z9, Z9 = upd w_28 (n + 1 + 1) (nI (48 + ((v / 10) % 10))) := ⟨_, rfl⟩
  have qqw_39 : Y_34 = setRow (setRow (setRow (setRow X 15 w_27) 23 w_28) 15 w_39) 23 w_40 := by rw [h_33, ew_39, ew_40]
  have hW_41 : Wd G (setRow (setRow X 15 w_39) 23 w_40) H_35 := Wd.cast (((qqw_39).trans (congrArg (fun Z9 => setRow (Z9) 23 w_40) (sr_in (by decide) sr_out))).trans (congrArg (fun Z9 => Z9) sr_out)) hW_37
  have kn_42 : w_39 (8) = nI (n + 1 + 1 + 1) := by rw [ew_39]; exact pk_us
  refine lv_iload_n hx hb dX8_writesNumber_35 rfl (lv_at hl_32 0 rfl) ?_
  refine lv_bipush (v := 10) hx hb dX8_writesNumber_36 (by decide) ?_
  refine lv_idiv hx hb dX8_writesNumber_38 (by decide) ?_
  refine g_top (y := 1) (by decide) ?_
  refine lv_istore_n (lv' := [(2, .int 1), (0, .ref (ad G 723)), (1, .int (nI v))]) hx hb dX8_writesNumber_39 rfl hl_32 (by decide) rfl (fun ls_43 hl_44 => ?_)
  refine lv_goto (tgt := 18) hx hb dX8_writesNumber_40 (by decide) ?_
  refine lv_iload_n hx hb dX8_writesNumber_18 rfl (lv_at hl_44 0 rfl) ?_
  refine lv_if_le (tgt := 43) hx hb dX8_writesNumber_19 (by decide) (fun h9 => absurd h9 (by decide)) (fun _ => ?_)
  refine lv_aload_n hx hb dX8_writesNumber_22 rfl (lv_at hl_44 1 rfl) ?_
  refine lv_bipush (v := 48) hx hb dX8_writesNumber_23 (by decide) ?_
  refine lv_iload_n hx hb dX8_writesNumber_25 rfl (lv_at hl_44 2 rfl) ?_
  refine lv_iload_n hx hb dX8_writesNumber_26 rfl (lv_at hl_44 0 rfl) ?_
  refine lv_idiv hx hb dX8_writesNumber_27 (by decide) ?_
  refine g_top (y := nI (v / 1)) (pk_div (a := v) (d := 1) (by omega) (by decide) (by decide)) ?_
  refine lv_bipush (v := 10) hx hb dX8_writesNumber_28 (by decide) ?_
  refine lv_irem hx hb dX8_writesNumber_30 (by decide) ?_
  refine g_top (y := nI ((v / 1) % 10)) (pk_rem (a := v / 1) (d := 10) (by omega) (by decide) (by decide)) ?_
  refine lv_iadd hx hb dX8_writesNumber_31 ?_
  refine g_top (y := nI (48 + ((v / 1) % 10))) (nI_add 48 ((v / 1) % 10)) ?_
  refine g_callv (va_runV (As := [.int (nI (48 + ((v / 1) % 10)))]) (rest := []) C.1 (cX8_writes_ok l G (setRow (setRow X 15 w_39) 23 w_40) (n + 1 + 1 + 1) (show n + 1 + 1 + 1 < 40 by omega) kn_42 (nI (48 + ((v / 1) % 10)))) (cwV 1 C.1.2.2.2.2 (gV qw_1863 qw_1865 qw_59 qw_81 qw_1866) rfl rfl rfl (by decide +kernel) ⟨Nat.le_of_ble_eq_true rfl, Nat.le_of_ble_eq_true rfl⟩) (g_rModel C hW_41 hS_38 [.int (nI (48 + ((v / 1) % 10)))]) rfl rfl hl_44.1 rfl (lv_room (Nat.le_of_ble_eq_true rfl)) dX8_writesNumber_32 ⟨Nat.zero_le _, Nat.zero_le _⟩) hS_38 (fun Y_46 H_47 locs_48 hW_49 hS_50 h_45 => ?_)
  replace h_45 : Y_46 = setRow (setRow (setRow (setRow X 15 w_39) 23 w_40) 15 (upd w_39 (8) (nI (n + 1 + 1 + 1 + 1)))) 23 (upd w_40 (n + 1 + 1 + 1) (nI (48 + ((v / 1) % 10)))) := h_45
  obtain ⟨w_51, ew_51⟩ : ∃ Z9, Z9 = upd w_39 (8) (nI (n + 1 + 1 + 1 + 1)) := ⟨_, rfl⟩
  obtain ⟨w_52, ew_52⟩ : ∃ Z9, Z9 = upd w_40 (n + 1 + 1 + 1) (nI (48 + ((v / 1) % 10))) := ⟨_, rfl⟩
  have qqw_51 : Y_46 = setRow (setRow (setRow (setRow X 15 w_39) 23 w_40) 15 w_51) 23 w_52 := by rw [h_45, ew_51, ew_52]
  have hW_53 : Wd G (setRow (setRow X 15 w_51) 23 w_52) H_47 := Wd.cast (((qqw_51).trans (congrArg (fun Z9 => setRow (Z9) 23 w_52) (sr_in (by decide) sr_out))).trans (congrArg (fun Z9 => Z9) sr_out)) hW_49
  have kn_54 : w_51 (8) = nI (n + 1 + 1 + 1 + 1) := by rw [ew_51]; exact pk_us
  refine lv_iload_n hx hb dX8_writesNumber_35 rfl (lv_at hl_44 0 rfl) ?_
  refine lv_bipush (v := 10) hx hb dX8_writesNumber_36 (by decide) ?_
  refine lv_idiv hx hb dX8_writesNumber_38 (by decide) ?_
  refine g_top (y := 0) (by decide) ?_
  refine lv_istore_n (lv' := [(2, .int 0), (0, .ref (ad G 723)), (1, .int (nI v))]) hx hb dX8_writesNumber_39 rfl hl_44 (by decide) rfl (fun ls_55 hl_56 => ?_)
  refine lv_goto (tgt := 18) hx hb dX8_writesNumber_40 (by decide) ?_
  refine lv_iload_n hx hb dX8_writesNumber_18 rfl (lv_at hl_56 0 rfl) ?_
  refine lv_if_le (tgt := 43) hx hb dX8_writesNumber_19 (by decide) (fun _ => ?_) (fun h9 => absurd h9 (by decide))
  exact g_vret C hr hlk hW_53 hS_50 dX8_writesNumber_43 (by subst ew_52; subst ew_51; subst ew_40; subst ew_39; subst ew_28; subst ew_27; subst ew_16; subst ew_15; rw [wnR_4 hv1 hv2, sbd_4 hv1 hv2]; (try simp only [uu8]); (try rfl))

theorem cX8_writesNumber_ok (l : Launch) (G : GT) (X : St) (n : Nat) (hn : n + 4 < 40) (en : X.1 15 8 = nI n) (v : Nat) (hv : v < 10000) : MetV l G yX8_writesNumber (wsG yX8_writesNumber cX8_writesNumber 3 none) (rmz 1 21) [.ref (ad G 723), .int (nI v)] X (fun Y => Y = setRow (setRow X 15 (upd (X.1 15) (8) (nI (n + sb_dg v)))) 23 (wnR (X.1 23) n v)) := by
  by_cases h1 : v < 10
  · exact cX8_writesNumber1_ok l G X n hn en v (Nat.zero_le v) h1
  · by_cases h2 : v < 100
    · exact cX8_writesNumber2_ok l G X n hn en v (by omega) h2
    · by_cases h3 : v < 1000
      · exact cX8_writesNumber3_ok l G X n hn en v (by omega) h3
      · exact cX8_writesNumber4_ok l G X n hn en v (by omega) hv

def oM_renderFurnace (w15 : Nat → Int32) (w16 : Nat → Int32) (w23 : Nat → Int32) (x : Int32) : Int32 × ((Nat → Int32) × (Nat → Int32)) := 
  if oM_isThree x = 0 then (0, upd w15 0 1, w23)
  else (nI (rmS w16 (9 + 6 * x.toNatClampNeg) w23).1, upd (upd w15 0 0) 8 (nI (rmS w16 (9 + 6 * x.toNatClampNeg) w23).1), (rmS w16 (9 + 6 * x.toNatClampNeg) w23).2)
set_option maxHeartbeats 4000000 in
set_option maxRecDepth 100000 in
theorem cX8_renderFurnace_ok (l : Launch) (G : GT) (X : St) (x : Int32) (hmass : ∀ f, f < 3 → MassOk (X.1 16) (9 + 6 * f)) : MetI l G yX8_renderFurnace (wsG yX8_renderFurnace cX8_renderFurnace 4 (some .int)) (rmz 2 43) [.ref (ad G 723), .int x] X (fun res Y => res = (oM_renderFurnace (X.1 15) (X.1 16) (X.1 23) x).1 ∧ Y = setRow (setRow (X) 15 ((oM_renderFurnace (X.1 15) (X.1 16) (X.1 23) x).2.1)) 23 ((oM_renderFurnace (X.1 15) (X.1 16) (X.1 23) x).2.2)) := by
  refine g_met (cc := cX8_renderFurnace) (maxL := 4) (ret := (some .int)) (by decide) rfl (Nat.le_of_ble_eq_true rfl) ?_
  intro p e s m below meth c ls C hr hlk hnm hW hl
  have hx := C.1.1
  have hb := C.1.2.1
  have hS : va_S (Ab G) s.heap s.heap [] := va_S.rf
  have hl : lv_has ls 4 [(0, .ref (ad G 723)), (1, .int x)] := hl
  have hW : Wd G (setRow (setRow (X) 15 (X.1 15)) 23 (X.1 23)) s.heap := Wd.cast (((sr_same (X := setRow (X) 15 (X.1 15)) (r := 23) rfl).trans (sr_same (X := X) (r := 15) rfl))).symm hW
  refine lv_aload_n hx hb dX8_renderFurnace_0 rfl (lv_at hl 0 rfl) ?_
  refine lv_iload_n hx hb dX8_renderFurnace_1 rfl (lv_at hl 1 rfl) ?_
  refine g_calli (va_runS (As := [.int x]) (rest := [.ref (ad G 723)]) C.1 (cX8_isThree_ok l G (setRow (setRow X 15 (X.1 15)) 23 (X.1 23)) x) (va_cwS 1 C.1.2.2.2.2 (gS qw_1565 qw_1566 qw_81 qw_1567) rfl rfl rfl (by decide +kernel) ⟨Nat.le_of_ble_eq_true rfl, Nat.le_of_ble_eq_true rfl⟩) (g_pre C hW hS [.int x]) rfl rfl hl.1 rfl (lv_room (Nat.le_of_ble_eq_true rfl)) dX8_renderFurnace_2 ⟨Nat.zero_le _, Nat.zero_le _⟩) hS (fun r_2 Y_3 H_4 locs_5 hW_6 hS_7 h_1 => ?_)
  obtain ⟨h_1, hy_8⟩ := h_1
  replace hy_8 := hy_8.symm
  subst hy_8
  replace h_1 : r_2 = oM_isThree x := h_1
  subst h_1
  refine lv_if_eq (tgt := 12) hx hb dX8_renderFurnace_5 (by decide) (fun b_9 => ?_) (fun b_9 => ?_)
  · refine lv_iconst (v := 1) hx hb dX8_renderFurnace_12 (by decide) ?_
    refine gM_thrownP C hW_6 hS_7 (hwc hwX8) (mc qw_1476) dX8_renderFurnace_13 (fun H_10 locs_11 hW_12 hS_13 => ?_)
    obtain ⟨w_14, ew_14⟩ : ∃ Z9, Z9 = upd (X.1 15) (0) 1 := ⟨_, rfl⟩
    have kn_15 : w_14 (0) = 1 := by rw [ew_14]; exact pk_us
    have hW_16 : Wd G (setRow (setRow X 15 w_14) 23 (X.1 23)) H_10 := Wd.cast (by rw [ew_14]; exact (st_in (by decide) st_out)) hW_12
    refine lv_aload_n hx hb dX8_renderFurnace_16 rfl (lv_at hl 0 rfl) ?_
    refine gM_thrown C hW_16 (hwc hwX8) (mc qw_1476) dX8_renderFurnace_17 ?_
    refine g_top (y := w_14 (0)) (congrFun (rd_in (by decide) rd_out) _) ?_
    refine g_top (y := 1) kn_15 ?_
    refine lv_if_eq (tgt := 25) hx hb dX8_renderFurnace_20 (by decide) (fun h9 => absurd h9 (by decide)) (fun _ => ?_)
    refine lv_iconst (v := 0) hx hb dX8_renderFurnace_23 (by decide) ?_
    exact g_iret C hr hlk hW_16 hS_13 dX8_renderFurnace_24 (by subst ew_14; exact ⟨by simp only [oM_renderFurnace, eq_true b_9, if_true], by simp only [oM_renderFurnace, eq_true b_9, if_true]⟩)
  · obtain ⟨f_17, hf_17, rfl⟩ := three_in b_9
    refine lv_iconst (v := 0) hx hb dX8_renderFurnace_8 (by decide) ?_
    refine lv_goto (tgt := 13) hx hb dX8_renderFurnace_9 (by decide) ?_
    refine gM_thrownP C hW_6 hS_7 (hwc hwX8) (mc qw_1476) dX8_renderFurnace_13 (fun H_18 locs_19 hW_20 hS_21 => ?_)
    obtain ⟨w_22, ew_22⟩ : ∃ Z9, Z9 = upd (X.1 15) (0) 0 := ⟨_, rfl⟩
    have kn_23 : w_22 (0) = 0 := by rw [ew_22]; exact pk_us
    have hW_24 : Wd G (setRow (setRow X 15 w_22) 23 (X.1 23)) H_18 := Wd.cast (by rw [ew_22]; exact (st_in (by decide) st_out)) hW_20
    refine lv_aload_n hx hb dX8_renderFurnace_16 rfl (lv_at hl 0 rfl) ?_
    refine gM_thrown C hW_24 (hwc hwX8) (mc qw_1476) dX8_renderFurnace_17 ?_
    refine g_top (y := w_22 (0)) (congrFun (rd_in (by decide) rd_out) _) ?_
    refine g_top (y := 0) kn_23 ?_
    refine lv_if_eq (tgt := 25) hx hb dX8_renderFurnace_20 (by decide) (fun _ => ?_) (fun h9 => absurd h9 (by decide))
    obtain ⟨m0, m1, m2, m3, tt, em0, em1, em2, em3, em4, hms, htt⟩ := hmass f_17 hf_17
    have dm0 := dg3 (show m0 ≤ 100 by omega)
    have dm1 := dg3 (show m1 ≤ 100 by omega)
    have dm2 := dg3 (show m2 ≤ 100 by omega)
    have dm3 := dg3 (show m3 ≤ 100 by omega)
    have dtt := dg4 (show tt ≤ 1500 by omega)
    refine lv_iload_n hx hb dX8_renderFurnace_25 rfl (lv_at hl 1 rfl) ?_
    refine g_calli (va_runS (As := [.int (nI f_17)]) (rest := []) C.1 (cX8_furnace_ok l G (setRow (setRow X 15 w_22) 23 (X.1 23)) (nI f_17)) (va_cwS 1 C.1.2.2.2.2 (gS qw_1470 qw_1471 qw_81 qw_1472) rfl rfl rfl (by decide +kernel) ⟨Nat.le_of_ble_eq_true rfl, Nat.le_of_ble_eq_true rfl⟩) (g_pre C hW_24 hS_21 [.int (nI f_17)]) rfl rfl hl.1 rfl (lv_room (Nat.le_of_ble_eq_true rfl)) dX8_renderFurnace_26 ⟨Nat.zero_le _, Nat.zero_le _⟩) hS_21 (fun r_26 Y_27 H_28 locs_29 hW_30 hS_31 h_25 => ?_)
    obtain ⟨h_25, hy_32⟩ := h_25
    replace hy_32 := hy_32.symm
    subst hy_32
    replace h_25 : r_26 = oM_furnace (nI f_17) := h_25
    subst h_25
    refine g_top (y := nI (9 + 6 * f_17)) (at_furnace f_17) ?_
    refine lv_istore_n (lv' := [(2, .int (nI (9 + 6 * f_17))), (0, .ref (ad G 723)), (1, .int (nI f_17))]) hx hb dX8_renderFurnace_29 rfl hl (by decide) rfl (fun ls_33 hl_34 => ?_)
    refine lv_aload_n hx hb dX8_renderFurnace_30 rfl (lv_at hl_34 1 rfl) ?_
    refine lv_iconst (v := 0) hx hb dX8_renderFurnace_31 (by decide) ?_
    refine gM_lineNP C hW_30 hS_31 (hwc hwX8) (mc qw_1495) dX8_renderFurnace_32 (fun H_35 locs_36 hW_37 hS_38 => ?_)
    obtain ⟨w_39, ew_39⟩ : ∃ Z9, Z9 = upd w_22 (8) 0 := ⟨_, rfl⟩
    have kn_40 : w_39 (0) = 0 := by rw [ew_39]; exact (pk_un (by omega)).trans kn_23
    have kn_41 : w_39 (8) = 0 := by rw [ew_39]; exact pk_us
    have hW_42 : Wd G (setRow (setRow X 15 w_39) 23 (X.1 23)) H_35 := Wd.cast (by rw [ew_39]; exact (st_in (by decide) st_out)) hW_37
    refine lv_iconst (v := 0) hx hb dX8_renderFurnace_35 (by decide) ?_
    refine lv_istore_n (lv' := [(3, .int 0), (2, .int (nI (9 + 6 * f_17))), (0, .ref (ad G 723)), (1, .int (nI f_17))]) hx hb dX8_renderFurnace_36 rfl hl_34 (by decide) rfl (fun ls_43 hl_44 => ?_)
    refine lv_iload_n hx hb dX8_renderFurnace_37 rfl (lv_at hl_44 0 rfl) ?_
    refine lv_iconst (v := 4) hx hb dX8_renderFurnace_38 (by decide) ?_
    refine lv_icmp_ge (tgt := 82) hx hb dX8_renderFurnace_39 (by decide) (fun h9 => absurd h9 (by decide)) (fun _ => ?_)
    refine lv_aload_n hx hb dX8_renderFurnace_42 rfl (lv_at hl_44 2 rfl) ?_
    refine gM_v C hW_42 (hwc hwX8) (mc qw_1481) dX8_renderFurnace_43 ?_
    refine lv_iload_n hx hb dX8_renderFurnace_46 rfl (lv_at hl_44 1 rfl) ?_
    refine lv_iload_n hx hb dX8_renderFurnace_47 rfl (lv_at hl_44 0 rfl) ?_
    refine lv_iadd hx hb dX8_renderFurnace_48 ?_
    refine g_top (y := (nI (9 + 6 * f_17))) (Int32.add_zero _) ?_
    refine gm_vld C hW_42 (9 + 6 * f_17) (nI_clamp (by omega)) (vp_in_nI (show 9 + 6 * f_17 < 128 by omega) (by decide)) dX8_renderFurnace_49 ?_
    refine g_top (y := X.1 16 (9 + 6 * f_17)) (congrFun (rd_in (by decide) (rd_in (by decide) rfl)) _) ?_
    refine g_top (y := nI m0) em0 ?_
    refine lv_if_ne (tgt := 56) hx hb dX8_renderFurnace_50 (by decide) (fun b_45 => ?_) (fun b_45 => ?_)
    · have fb_45 : ¬ m0 = 0 := fun q9 => b_45 ((nI_eq (a := m0) (b := 0) (by omega) (by omega)).mpr q9)
      refine lv_aload_n hx hb dX8_renderFurnace_56 rfl (lv_at hl_44 2 rfl) ?_
      refine lv_iload_n hx hb dX8_renderFurnace_57 rfl (lv_at hl_44 0 rfl) ?_
      refine g_calli (va_runS (As := [.int 0]) (rest := [.ref (ad G 723)]) C.1 (cX8_letter_ok l G (setRow (setRow X 15 w_39) 23 (X.1 23)) 0) (va_cwS 1 C.1.2.2.2.2 (gS qw_1860 qw_1861 qw_81 qw_1862) rfl rfl rfl (by decide +kernel) ⟨Nat.le_of_ble_eq_true rfl, Nat.le_of_ble_eq_true rfl⟩) (g_pre C hW_42 hS_38 [.int 0]) rfl rfl hl_44.1 rfl (lv_room (Nat.le_of_ble_eq_true rfl)) dX8_renderFurnace_58 ⟨Nat.zero_le _, Nat.zero_le _⟩) hS_38 (fun r_47 Y_48 H_49 locs_50 hW_51 hS_52 h_46 => ?_)
      obtain ⟨h_46, hy_53⟩ := h_46
      replace hy_53 := hy_53.symm
      subst hy_53
      replace h_46 : r_47 = oM_letter 0 := h_46
      subst h_46
      refine g_callv (va_runV (As := [.int (oM_letter 0)]) (rest := []) C.1 (cX8_writes_ok l G (setRow (setRow X 15 w_39) 23 (X.1 23)) 0 (show 0 < 40 by omega) kn_41 (oM_letter 0)) (cwV 1 C.1.2.2.2.2 (gV qw_1863 qw_1865 qw_59 qw_81 qw_1866) rfl rfl rfl (by decide +kernel) ⟨Nat.le_of_ble_eq_true rfl, Nat.le_of_ble_eq_true rfl⟩) (g_rModel C hW_51 hS_52 [.int (oM_letter 0)]) rfl rfl hl_44.1 rfl (lv_room (Nat.le_of_ble_eq_true rfl)) dX8_renderFurnace_61 ⟨Nat.zero_le _, Nat.zero_le _⟩) hS_52 (fun Y_55 H_56 locs_57 hW_58 hS_59 h_54 => ?_)
      replace h_54 : Y_55 = setRow (setRow (setRow (setRow X 15 w_39) 23 (X.1 23)) 15 (upd w_39 (8) (nI (0 + 1)))) 23 (upd (X.1 23) (0) (oM_letter 0)) := h_54
      obtain ⟨w_60, ew_60⟩ : ∃ Z9, Z9 = upd w_39 (8) (nI (0 + 1)) := ⟨_, rfl⟩
      obtain ⟨w_61, ew_61⟩ : ∃ Z9, Z9 = upd (X.1 23) (0) (oM_letter 0) := ⟨_, rfl⟩
      have qqw_60 : Y_55 = setRow (setRow (setRow (setRow X 15 w_39) 23 (X.1 23)) 15 w_60) 23 w_61 := by rw [h_54, ew_60, ew_61]
      have hW_62 : Wd G (setRow (setRow X 15 w_60) 23 w_61) H_56 := Wd.cast (((qqw_60).trans (congrArg (fun Z9 => setRow (Z9) 23 w_61) (sr_in (by decide) sr_out))).trans (congrArg (fun Z9 => Z9) sr_out)) hW_58
      have kn_63 : w_60 (8) = nI (0 + 1) := by rw [ew_60]; exact pk_us
      refine lv_aload_n hx hb dX8_renderFurnace_64 rfl (lv_at hl_44 2 rfl) ?_
      refine lv_aload_n hx hb dX8_renderFurnace_65 rfl (lv_at hl_44 2 rfl) ?_
      refine gM_v C hW_62 (hwc hwX8) (mc qw_1481) dX8_renderFurnace_66 ?_
      refine lv_iload_n hx hb dX8_renderFurnace_69 rfl (lv_at hl_44 1 rfl) ?_
      refine lv_iload_n hx hb dX8_renderFurnace_70 rfl (lv_at hl_44 0 rfl) ?_
      refine lv_iadd hx hb dX8_renderFurnace_71 ?_
      refine g_top (y := (nI (9 + 6 * f_17))) (Int32.add_zero _) ?_
      refine gm_vld C hW_62 (9 + 6 * f_17) (nI_clamp (by omega)) (vp_in_nI (show 9 + 6 * f_17 < 128 by omega) (by decide)) dX8_renderFurnace_72 ?_
      refine g_top (y := X.1 16 (9 + 6 * f_17)) (congrFun (rd_in (by decide) (rd_in (by decide) rfl)) _) ?_
      refine g_top (y := nI m0) em0 ?_
      refine g_callv (va_runV (As := [.int (nI m0)]) (rest := []) C.1 (cX8_writesNumber_ok l G (setRow (setRow X 15 w_60) 23 w_61) (0 + 1) (show 0 + 1 + 4 < 40 by omega) kn_63 m0 (show m0 < 10000 by omega)) (cwV 1 C.1.2.2.2.2 (gV qw_1867 qw_1869 qw_60 qw_81 qw_1870) rfl rfl rfl (by decide +kernel) ⟨Nat.le_of_ble_eq_true rfl, Nat.le_of_ble_eq_true rfl⟩) (g_rModel C hW_62 hS_59 [.int (nI m0)]) rfl rfl hl_44.1 rfl (lv_room (Nat.le_of_ble_eq_true rfl)) dX8_renderFurnace_73 ⟨Nat.zero_le _, Nat.zero_le _⟩) hS_59 (fun Y_65 H_66 locs_67 hW_68 hS_69 h_64 => ?_)
      replace h_64 : Y_65 = setRow (setRow (setRow (setRow X 15 w_60) 23 w_61) 15 (upd w_60 (8) (nI (0 + 1 + sb_dg m0)))) 23 (wnR w_61 (0 + 1) m0) := h_64
      obtain ⟨w_70, ew_70⟩ : ∃ Z9, Z9 = upd w_60 (8) (nI (0 + 1 + sb_dg m0)) := ⟨_, rfl⟩
      obtain ⟨w_71, ew_71⟩ : ∃ Z9, Z9 = wnR w_61 (0 + 1) m0 := ⟨_, rfl⟩
      have qqw_70 : Y_65 = setRow (setRow (setRow (setRow X 15 w_60) 23 w_61) 15 w_70) 23 w_71 := by rw [h_64, ew_70, ew_71]
      have hW_72 : Wd G (setRow (setRow X 15 w_70) 23 w_71) H_66 := Wd.cast (((qqw_70).trans (congrArg (fun Z9 => setRow (Z9) 23 w_71) (sr_in (by decide) sr_out))).trans (congrArg (fun Z9 => Z9) sr_out)) hW_68
      have kn_73 : w_70 (8) = nI (0 + 1 + sb_dg m0) := by rw [ew_70]; exact pk_us
      refine lv_iinc (v := 1) (lv' := [(3, .int 1), (2, .int (nI (9 + 6 * f_17))), (0, .ref (ad G 723)), (1, .int (nI f_17))]) hx hb dX8_renderFurnace_76 hl_44 (k := 0) rfl (by decide) (by decide) rfl (fun ls_74 hl_75 => ?_)
      refine lv_goto (tgt := 37) hx hb dX8_renderFurnace_79 (by decide) ?_
      refine lv_iload_n hx hb dX8_renderFurnace_37 rfl (lv_at hl_75 0 rfl) ?_
      refine lv_iconst (v := 4) hx hb dX8_renderFurnace_38 (by decide) ?_
      refine lv_icmp_ge (tgt := 82) hx hb dX8_renderFurnace_39 (by decide) (fun h9 => absurd h9 (by decide)) (fun _ => ?_)
      refine lv_aload_n hx hb dX8_renderFurnace_42 rfl (lv_at hl_75 2 rfl) ?_
      refine gM_v C hW_72 (hwc hwX8) (mc qw_1481) dX8_renderFurnace_43 ?_
      refine lv_iload_n hx hb dX8_renderFurnace_46 rfl (lv_at hl_75 1 rfl) ?_
      refine lv_iload_n hx hb dX8_renderFurnace_47 rfl (lv_at hl_75 0 rfl) ?_
      refine lv_iadd hx hb dX8_renderFurnace_48 ?_
      refine g_top (y := nI ((9 + 6 * f_17) + 1)) (nI_add (9 + 6 * f_17) 1) ?_
      refine gm_vld C hW_72 ((9 + 6 * f_17) + 1) (nI_clamp (by omega)) (vp_in_nI (show (9 + 6 * f_17) + 1 < 128 by omega) (by decide)) dX8_renderFurnace_49 ?_
      refine g_top (y := X.1 16 ((9 + 6 * f_17) + 1)) (congrFun (rd_in (by decide) (rd_in (by decide) rfl)) _) ?_
      refine g_top (y := nI m1) em1 ?_
      refine lv_if_ne (tgt := 56) hx hb dX8_renderFurnace_50 (by decide) (fun b_76 => ?_) (fun b_76 => ?_)
      · have fb_76 : ¬ m1 = 0 := fun q9 => b_76 ((nI_eq (a := m1) (b := 0) (by omega) (by omega)).mpr q9)
        refine lv_aload_n hx hb dX8_renderFurnace_56 rfl (lv_at hl_75 2 rfl) ?_
        refine lv_iload_n hx hb dX8_renderFurnace_57 rfl (lv_at hl_75 0 rfl) ?_
        refine g_calli (va_runS (As := [.int 1]) (rest := [.ref (ad G 723)]) C.1 (cX8_letter_ok l G (setRow (setRow X 15 w_70) 23 w_71) 1) (va_cwS 1 C.1.2.2.2.2 (gS qw_1860 qw_1861 qw_81 qw_1862) rfl rfl rfl (by decide +kernel) ⟨Nat.le_of_ble_eq_true rfl, Nat.le_of_ble_eq_true rfl⟩) (g_pre C hW_72 hS_69 [.int 1]) rfl rfl hl_75.1 rfl (lv_room (Nat.le_of_ble_eq_true rfl)) dX8_renderFurnace_58 ⟨Nat.zero_le _, Nat.zero_le _⟩) hS_69 (fun r_78 Y_79 H_80 locs_81 hW_82 hS_83 h_77 => ?_)
        obtain ⟨h_77, hy_84⟩ := h_77
        replace hy_84 := hy_84.symm
        subst hy_84
        replace h_77 : r_78 = oM_letter 1 := h_77
        subst h_77
        refine g_callv (va_runV (As := [.int (oM_letter 1)]) (rest := []) C.1 (cX8_writes_ok l G (setRow (setRow X 15 w_70) 23 w_71) (0 + 1 + sb_dg m0) (show 0 + 1 + sb_dg m0 < 40 by omega) kn_73 (oM_letter 1)) (cwV 1 C.1.2.2.2.2 (gV qw_1863 qw_1865 qw_59 qw_81 qw_1866) rfl rfl rfl (by decide +kernel) ⟨Nat.le_of_ble_eq_true rfl, Nat.le_of_ble_eq_true rfl⟩) (g_rModel C hW_82 hS_83 [.int (oM_letter 1)]) rfl rfl hl_75.1 rfl (lv_room (Nat.le_of_ble_eq_true rfl)) dX8_renderFurnace_61 ⟨Nat.zero_le _, Nat.zero_le _⟩) hS_83 (fun Y_86 H_87 locs_88 hW_89 hS_90 h_85 => ?_)
        replace h_85 : Y_86 = setRow (setRow (setRow (setRow X 15 w_70) 23 w_71) 15 (upd w_70 (8) (nI (0 + 1 + sb_dg m0 + 1)))) 23 (upd w_71 (0 + 1 + sb_dg m0) (oM_letter 1)) := h_85
        obtain ⟨w_91, ew_91⟩ : ∃ Z9, Z9 = upd w_70 (8) (nI (0 + 1 + sb_dg m0 + 1)) := ⟨_, rfl⟩
        obtain ⟨w_92, ew_92⟩ : ∃ Z9, Z9 = upd w_71 (0 + 1 + sb_dg m0) (oM_letter 1) := ⟨_, rfl⟩
        have qqw_91 : Y_86 = setRow (setRow (setRow (setRow X 15 w_70) 23 w_71) 15 w_91) 23 w_92 := by rw [h_85, ew_91, ew_92]
        have hW_93 : Wd G (setRow (setRow X 15 w_91) 23 w_92) H_87 := Wd.cast (((qqw_91).trans (congrArg (fun Z9 => setRow (Z9) 23 w_92) (sr_in (by decide) sr_out))).trans (congrArg (fun Z9 => Z9) sr_out)) hW_89
        have kn_94 : w_91 (8) = nI (0 + 1 + sb_dg m0 + 1) := by rw [ew_91]; exact pk_us
        refine lv_aload_n hx hb dX8_renderFurnace_64 rfl (lv_at hl_75 2 rfl) ?_
        refine lv_aload_n hx hb dX8_renderFurnace_65 rfl (lv_at hl_75 2 rfl) ?_
        refine gM_v C hW_93 (hwc hwX8) (mc qw_1481) dX8_renderFurnace_66 ?_
        refine lv_iload_n hx hb dX8_renderFurnace_69 rfl (lv_at hl_75 1 rfl) ?_
        refine lv_iload_n hx hb dX8_renderFurnace_70 rfl (lv_at hl_75 0 rfl) ?_
        refine lv_iadd hx hb dX8_renderFurnace_71 ?_
        refine g_top (y := nI ((9 + 6 * f_17) + 1)) (nI_add (9 + 6 * f_17) 1) ?_
        refine gm_vld C hW_93 ((9 + 6 * f_17) + 1) (nI_clamp (by omega)) (vp_in_nI (show (9 + 6 * f_17) + 1 < 128 by omega) (by decide)) dX8_renderFurnace_72 ?_
        refine g_top (y := X.1 16 ((9 + 6 * f_17) + 1)) (congrFun (rd_in (by decide) (rd_in (by decide) rfl)) _) ?_
        refine g_top (y := nI m1) em1 ?_
        refine g_callv (va_runV (As := [.int (nI m1)]) (rest := []) C.1 (cX8_writesNumber_ok l G (setRow (setRow X 15 w_91) 23 w_92) (0 + 1 + sb_dg m0 + 1) (show 0 + 1 + sb_dg m0 + 1 + 4 < 40 by omega) kn_94 m1 (show m1 < 10000 by omega)) (cwV 1 C.1.2.2.2.2 (gV qw_1867 qw_1869 qw_60 qw_81 qw_1870) rfl rfl rfl (by decide +kernel) ⟨Nat.le_of_ble_eq_true rfl, Nat.le_of_ble_eq_true rfl⟩) (g_rModel C hW_93 hS_90 [.int (nI m1)]) rfl rfl hl_75.1 rfl (lv_room (Nat.le_of_ble_eq_true rfl)) dX8_renderFurnace_73 ⟨Nat.zero_le _, Nat.zero_le _⟩) hS_90 (fun Y_96 H_97 locs_98 hW_99 hS_100 h_95 => ?_)
        replace h_95 : Y_96 = setRow (setRow (setRow (setRow X 15 w_91) 23 w_92) 15 (upd w_91 (8) (nI (0 + 1 + sb_dg m0 + 1 + sb_dg m1)))) 23 (wnR w_92 (0 + 1 + sb_dg m0 + 1) m1) := h_95
        obtain ⟨w_101, ew_101⟩ : ∃ Z9, Z9 = upd w_91 (8) (nI (0 + 1 + sb_dg m0 + 1 + sb_dg m1)) := ⟨_, rfl⟩
        obtain ⟨w_102, ew_102⟩ : ∃ Z9, Z9 = wnR w_92 (0 + 1 + sb_dg m0 + 1) m1 := ⟨_, rfl⟩
        have qqw_101 : Y_96 = setRow (setRow (setRow (setRow X 15 w_91) 23 w_92) 15 w_101) 23 w_102 := by rw [h_95, ew_101, ew_102]
        have hW_103 : Wd G (setRow (setRow X 15 w_101) 23 w_102) H_97 := Wd.cast (((qqw_101).trans (congrArg (fun Z9 => setRow (Z9) 23 w_102) (sr_in (by decide) sr_out))).trans (congrArg (fun Z9 => Z9) sr_out)) hW_99
        have kn_104 : w_101 (8) = nI (0 + 1 + sb_dg m0 + 1 + sb_dg m1) := by rw [ew_101]; exact pk_us
        refine lv_iinc (v := 2) (lv' := [(3, .int 2), (2, .int (nI (9 + 6 * f_17))), (0, .ref (ad G 723)), (1, .int (nI f_17))]) hx hb dX8_renderFurnace_76 hl_75 (k := 0) rfl (by decide) (by decide) rfl (fun ls_105 hl_106 => ?_)
        refine lv_goto (tgt := 37) hx hb dX8_renderFurnace_79 (by decide) ?_
        refine lv_iload_n hx hb dX8_renderFurnace_37 rfl (lv_at hl_106 0 rfl) ?_
        refine lv_iconst (v := 4) hx hb dX8_renderFurnace_38 (by decide) ?_
        refine lv_icmp_ge (tgt := 82) hx hb dX8_renderFurnace_39 (by decide) (fun h9 => absurd h9 (by decide)) (fun _ => ?_)
        refine lv_aload_n hx hb dX8_renderFurnace_42 rfl (lv_at hl_106 2 rfl) ?_
        refine gM_v C hW_103 (hwc hwX8) (mc qw_1481) dX8_renderFurnace_43 ?_
        refine lv_iload_n hx hb dX8_renderFurnace_46 rfl (lv_at hl_106 1 rfl) ?_
        refine lv_iload_n hx hb dX8_renderFurnace_47 rfl (lv_at hl_106 0 rfl) ?_
        refine lv_iadd hx hb dX8_renderFurnace_48 ?_
        refine g_top (y := nI ((9 + 6 * f_17) + 2)) (nI_add (9 + 6 * f_17) 2) ?_
        refine gm_vld C hW_103 ((9 + 6 * f_17) + 2) (nI_clamp (by omega)) (vp_in_nI (show (9 + 6 * f_17) + 2 < 128 by omega) (by decide)) dX8_renderFurnace_49 ?_
        refine g_top (y := X.1 16 ((9 + 6 * f_17) + 2)) (congrFun (rd_in (by decide) (rd_in (by decide) rfl)) _) ?_
        refine g_top (y := nI m2) em2 ?_
        refine lv_if_ne (tgt := 56) hx hb dX8_renderFurnace_50 (by decide) (fun b_107 => ?_) (fun b_107 => ?_)
        · have fb_107 : ¬ m2 = 0 := fun q9 => b_107 ((nI_eq (a := m2) (b := 0) (by omega) (by omega)).mpr q9)
          refine lv_aload_n hx hb dX8_renderFurnace_56 rfl (lv_at hl_106 2 rfl) ?_
          refine lv_iload_n hx hb dX8_renderFurnace_57 rfl (lv_at hl_106 0 rfl) ?_
          refine g_calli (va_runS (As := [.int 2]) (rest := [.ref (ad G 723)]) C.1 (cX8_letter_ok l G (setRow (setRow X 15 w_101) 23 w_102) 2) (va_cwS 1 C.1.2.2.2.2 (gS qw_1860 qw_1861 qw_81 qw_1862) rfl rfl rfl (by decide +kernel) ⟨Nat.le_of_ble_eq_true rfl, Nat.le_of_ble_eq_true rfl⟩) (g_pre C hW_103 hS_100 [.int 2]) rfl rfl hl_106.1 rfl (lv_room (Nat.le_of_ble_eq_true rfl)) dX8_renderFurnace_58 ⟨Nat.zero_le _, Nat.zero_le _⟩) hS_100 (fun r_109 Y_110 H_111 locs_112 hW_113 hS_114 h_108 => ?_)
          obtain ⟨h_108, hy_115⟩ := h_108
          replace hy_115 := hy_115.symm
          subst hy_115
          replace h_108 : r_109 = oM_letter 2 := h_108
          subst h_108
          refine g_callv (va_runV (As := [.int (oM_letter 2)]) (rest := []) C.1 (cX8_writes_ok l G (setRow (setRow X 15 w_101) 23 w_102) (0 + 1 + sb_dg m0 + 1 + sb_dg m1) (show 0 + 1 + sb_dg m0 + 1 + sb_dg m1 < 40 by omega) kn_104 (oM_letter 2)) (cwV 1 C.1.2.2.2.2 (gV qw_1863 qw_1865 qw_59 qw_81 qw_1866) rfl rfl rfl (by decide +kernel) ⟨Nat.le_of_ble_eq_true rfl, Nat.le_of_ble_eq_true rfl⟩) (g_rModel C hW_113 hS_114 [.int (oM_letter 2)]) rfl rfl hl_106.1 rfl (lv_room (Nat.le_of_ble_eq_true rfl)) dX8_renderFurnace_61 ⟨Nat.zero_le _, Nat.zero_le _⟩) hS_114 (fun Y_117 H_118 locs_119 hW_120 hS_121 h_116 => ?_)
          replace h_116 : Y_117 = setRow (setRow (setRow (setRow X 15 w_101) 23 w_102) 15 (upd w_101 (8) (nI (0 + 1 + sb_dg m0 + 1 + sb_dg m1 + 1)))) 23 (upd w_102 (0 + 1 + sb_dg m0 + 1 + sb_dg m1) (oM_letter 2)) := h_116
          obtain ⟨w_122, ew_122⟩ : ∃ Z9, Z9 = upd w_101 (8) (nI (0 + 1 + sb_dg m0 + 1 + sb_dg m1 + 1)) := ⟨_, rfl⟩
          obtain ⟨w_123, ew_123⟩ : ∃ Z9, Z9 = upd w_102 (0 + 1 + sb_dg m0 + 1 + sb_dg m1) (oM_letter 2) := ⟨_, rfl⟩
          have qqw_122 : Y_117 = setRow (setRow (setRow (setRow X 15 w_101) 23 w_102) 15 w_122) 23 w_123 := by rw [h_116, ew_122, ew_123]
          have hW_124 : Wd G (setRow (setRow X 15 w_122) 23 w_123) H_118 := Wd.cast (((qqw_122).trans (congrArg (fun Z9 => setRow (Z9) 23 w_123) (sr_in (by decide) sr_out))).trans (congrArg (fun Z9 => Z9) sr_out)) hW_120
          have kn_125 : w_122 (8) = nI (0 + 1 + sb_dg m0 + 1 + sb_dg m1 + 1) := by rw [ew_122]; exact pk_us
          refine lv_aload_n hx hb dX8_renderFurnace_64 rfl (lv_at hl_106 2 rfl) ?_
          refine lv_aload_n hx hb dX8_renderFurnace_65 rfl (lv_at hl_106 2 rfl) ?_
          refine gM_v C hW_124 (hwc hwX8) (mc qw_1481) dX8_renderFurnace_66 ?_
          refine lv_iload_n hx hb dX8_renderFurnace_69 rfl (lv_at hl_106 1 rfl) ?_
          refine lv_iload_n hx hb dX8_renderFurnace_70 rfl (lv_at hl_106 0 rfl) ?_
          refine lv_iadd hx hb dX8_renderFurnace_71 ?_
          refine g_top (y := nI ((9 + 6 * f_17) + 2)) (nI_add (9 + 6 * f_17) 2) ?_
          refine gm_vld C hW_124 ((9 + 6 * f_17) + 2) (nI_clamp (by omega)) (vp_in_nI (show (9 + 6 * f_17) + 2 < 128 by omega) (by decide)) dX8_renderFurnace_72 ?_
          refine g_top (y := X.1 16 ((9 + 6 * f_17) + 2)) (congrFun (rd_in (by decide) (rd_in (by decide) rfl)) _) ?_
          refine g_top (y := nI m2) em2 ?_
          refine g_callv (va_runV (As := [.int (nI m2)]) (rest := []) C.1 (cX8_writesNumber_ok l G (setRow (setRow X 15 w_122) 23 w_123) (0 + 1 + sb_dg m0 + 1 + sb_dg m1 + 1) (show 0 + 1 + sb_dg m0 + 1 + sb_dg m1 + 1 + 4 < 40 by omega) kn_125 m2 (show m2 < 10000 by omega)) (cwV 1 C.1.2.2.2.2 (gV qw_1867 qw_1869 qw_60 qw_81 qw_1870) rfl rfl rfl (by decide +kernel) ⟨Nat.le_of_ble_eq_true rfl, Nat.le_of_ble_eq_true rfl⟩) (g_rModel C hW_124 hS_121 [.int (nI m2)]) rfl rfl hl_106.1 rfl (lv_room (Nat.le_of_ble_eq_true rfl)) dX8_renderFurnace_73 ⟨Nat.zero_le _, Nat.zero_le _⟩) hS_121 (fun Y_127 H_128 locs_129 hW_130 hS_131 h_126 => ?_)
          replace h_126 : Y_127 = setRow (setRow (setRow (setRow X 15 w_122) 23 w_123) 15 (upd w_122 (8) (nI (0 + 1 + sb_dg m0 + 1 + sb_dg m1 + 1 + sb_dg m2)))) 23 (wnR w_123 (0 + 1 + sb_dg m0 + 1 + sb_dg m1 + 1) m2) := h_126
          obtain ⟨w_132, ew_132⟩ : ∃ Z9, Z9 = upd w_122 (8) (nI (0 + 1 + sb_dg m0 + 1 + sb_dg m1 + 1 + sb_dg m2)) := ⟨_, rfl⟩
          obtain ⟨w_133, ew_133⟩ : ∃ Z9, Z9 = wnR w_123 (0 + 1 + sb_dg m0 + 1 + sb_dg m1 + 1) m2 := ⟨_, rfl⟩
          have qqw_132 : Y_127 = setRow (setRow (setRow (setRow X 15 w_122) 23 w_123) 15 w_132) 23 w_133 := by rw [h_126, ew_132, ew_133]
          have hW_134 : Wd G (setRow (setRow X 15 w_132) 23 w_133) H_128 := Wd.cast (((qqw_132).trans (congrArg (fun Z9 => setRow (Z9) 23 w_133) (sr_in (by decide) sr_out))).trans (congrArg (fun Z9 => Z9) sr_out)) hW_130
          have kn_135 : w_132 (8) = nI (0 + 1 + sb_dg m0 + 1 + sb_dg m1 + 1 + sb_dg m2) := by rw [ew_132]; exact pk_us
          refine lv_iinc (v := 3) (lv' := [(3, .int 3), (2, .int (nI (9 + 6 * f_17))), (0, .ref (ad G 723)), (1, .int (nI f_17))]) hx hb dX8_renderFurnace_76 hl_106 (k := 0) rfl (by decide) (by decide) rfl (fun ls_136 hl_137 => ?_)
          refine lv_goto (tgt := 37) hx hb dX8_renderFurnace_79 (by decide) ?_
          refine lv_iload_n hx hb dX8_renderFurnace_37 rfl (lv_at hl_137 0 rfl) ?_
          refine lv_iconst (v := 4) hx hb dX8_renderFurnace_38 (by decide) ?_
          refine lv_icmp_ge (tgt := 82) hx hb dX8_renderFurnace_39 (by decide) (fun h9 => absurd h9 (by decide)) (fun _ => ?_)
          refine lv_aload_n hx hb dX8_renderFurnace_42 rfl (lv_at hl_137 2 rfl) ?_
          refine gM_v C hW_134 (hwc hwX8) (mc qw_1481) dX8_renderFurnace_43 ?_
          refine lv_iload_n hx hb dX8_renderFurnace_46 rfl (lv_at hl_137 1 rfl) ?_
          refine lv_iload_n hx hb dX8_renderFurnace_47 rfl (lv_at hl_137 0 rfl) ?_
          refine lv_iadd hx hb dX8_renderFurnace_48 ?_
          refine g_top (y := nI ((9 + 6 * f_17) + 3)) (nI_add (9 + 6 * f_17) 3) ?_
          refine gm_vld C hW_134 ((9 + 6 * f_17) + 3) (nI_clamp (by omega)) (vp_in_nI (show (9 + 6 * f_17) + 3 < 128 by omega) (by decide)) dX8_renderFurnace_49 ?_
          refine g_top (y := X.1 16 ((9 + 6 * f_17) + 3)) (congrFun (rd_in (by decide) (rd_in (by decide) rfl)) _) ?_
          refine g_top (y := nI m3) em3 ?_
          refine lv_if_ne (tgt := 56) hx hb dX8_renderFurnace_50 (by decide) (fun b_138 => ?_) (fun b_138 => ?_)
          · have fb_138 : ¬ m3 = 0 := fun q9 => b_138 ((nI_eq (a := m3) (b := 0) (by omega) (by omega)).mpr q9)
            refine lv_aload_n hx hb dX8_renderFurnace_56 rfl (lv_at hl_137 2 rfl) ?_
            refine lv_iload_n hx hb dX8_renderFurnace_57 rfl (lv_at hl_137 0 rfl) ?_
            refine g_calli (va_runS (As := [.int 3]) (rest := [.ref (ad G 723)]) C.1 (cX8_letter_ok l G (setRow (setRow X 15 w_132) 23 w_133) 3) (va_cwS 1 C.1.2.2.2.2 (gS qw_1860 qw_1861 qw_81 qw_1862) rfl rfl rfl (by decide +kernel) ⟨Nat.le_of_ble_eq_true rfl, Nat.le_of_ble_eq_true rfl⟩) (g_pre C hW_134 hS_131 [.int 3]) rfl rfl hl_137.1 rfl (lv_room (Nat.le_of_ble_eq_true rfl)) dX8_renderFurnace_58 ⟨Nat.zero_le _, Nat.zero_le _⟩) hS_131 (fun r_140 Y_141 H_142 locs_143 hW_144 hS_145 h_139 => ?_)
            obtain ⟨h_139, hy_146⟩ := h_139
            replace hy_146 := hy_146.symm
            subst hy_146
            replace h_139 : r_140 = oM_letter 3 := h_139
            subst h_139
            refine g_callv (va_runV (As := [.int (oM_letter 3)]) (rest := []) C.1 (cX8_writes_ok l G (setRow (setRow X 15 w_132) 23 w_133) (0 + 1 + sb_dg m0 + 1 + sb_dg m1 + 1 + sb_dg m2) (show 0 + 1 + sb_dg m0 + 1 + sb_dg m1 + 1 + sb_dg m2 < 40 by omega) kn_135 (oM_letter 3)) (cwV 1 C.1.2.2.2.2 (gV qw_1863 qw_1865 qw_59 qw_81 qw_1866) rfl rfl rfl (by decide +kernel) ⟨Nat.le_of_ble_eq_true rfl, Nat.le_of_ble_eq_true rfl⟩) (g_rModel C hW_144 hS_145 [.int (oM_letter 3)]) rfl rfl hl_137.1 rfl (lv_room (Nat.le_of_ble_eq_true rfl)) dX8_renderFurnace_61 ⟨Nat.zero_le _, Nat.zero_le _⟩) hS_145 (fun Y_148 H_149 locs_150 hW_151 hS_152 h_147 => ?_)
            replace h_147 : Y_148 = setRow (setRow (setRow (setRow X 15 w_132) 23 w_133) 15 (upd w_132 (8) (nI (0 + 1 + sb_dg m0 + 1 + sb_dg m1 + 1 + sb_dg m2 + 1)))) 23 (upd w_133 (0 + 1 + sb_dg m0 + 1 + sb_dg m1 + 1 + sb_dg m2) (oM_letter 3)) := h_147
            obtain ⟨w_153, ew_153⟩ : ∃ Z9, Z9 = upd w_132 (8) (nI (0 + 1 + sb_dg m0 + 1 + sb_dg m1 + 1 + sb_dg m2 + 1)) := ⟨_, rfl⟩
            obtain ⟨w_154, ew_154⟩ : ∃ Z9, Z9 = upd w_133 (0 + 1 + sb_dg m0 + 1 + sb_dg m1 + 1 + sb_dg m2) (oM_letter 3) := ⟨_, rfl⟩
            have qqw_153 : Y_148 = setRow (setRow (setRow (setRow X 15 w_132) 23 w_133) 15 w_153) 23 w_154 := by rw [h_147, ew_153, ew_154]
            have hW_155 : Wd G (setRow (setRow X 15 w_153) 23 w_154) H_149 := Wd.cast (((qqw_153).trans (congrArg (fun Z9 => setRow (Z9) 23 w_154) (sr_in (by decide) sr_out))).trans (congrArg (fun Z9 => Z9) sr_out)) hW_151
            have kn_156 : w_153 (8) = nI (0 + 1 + sb_dg m0 + 1 + sb_dg m1 + 1 + sb_dg m2 + 1) := by rw [ew_153]; exact pk_us
            refine lv_aload_n hx hb dX8_renderFurnace_64 rfl (lv_at hl_137 2 rfl) ?_
            refine lv_aload_n hx hb dX8_renderFurnace_65 rfl (lv_at hl_137 2 rfl) ?_
            refine gM_v C hW_155 (hwc hwX8) (mc qw_1481) dX8_renderFurnace_66 ?_
            refine lv_iload_n hx hb dX8_renderFurnace_69 rfl (lv_at hl_137 1 rfl) ?_
            refine lv_iload_n hx hb dX8_renderFurnace_70 rfl (lv_at hl_137 0 rfl) ?_
            refine lv_iadd hx hb dX8_renderFurnace_71 ?_
            refine g_top (y := nI ((9 + 6 * f_17) + 3)) (nI_add (9 + 6 * f_17) 3) ?_
            refine gm_vld C hW_155 ((9 + 6 * f_17) + 3) (nI_clamp (by omega)) (vp_in_nI (show (9 + 6 * f_17) + 3 < 128 by omega) (by decide)) dX8_renderFurnace_72 ?_
            refine g_top (y := X.1 16 ((9 + 6 * f_17) + 3)) (congrFun (rd_in (by decide) (rd_in (by decide) rfl)) _) ?_
            refine g_top (y := nI m3) em3 ?_
            refine g_callv (va_runV (As := [.int (nI m3)]) (rest := []) C.1 (cX8_writesNumber_ok l G (setRow (setRow X 15 w_153) 23 w_154) (0 + 1 + sb_dg m0 + 1 + sb_dg m1 + 1 + sb_dg m2 + 1) (show 0 + 1 + sb_dg m0 + 1 + sb_dg m1 + 1 + sb_dg m2 + 1 + 4 < 40 by omega) kn_156 m3 (show m3 < 10000 by omega)) (cwV 1 C.1.2.2.2.2 (gV qw_1867 qw_1869 qw_60 qw_81 qw_1870) rfl rfl rfl (by decide +kernel) ⟨Nat.le_of_ble_eq_true rfl, Nat.le_of_ble_eq_true rfl⟩) (g_rModel C hW_155 hS_152 [.int (nI m3)]) rfl rfl hl_137.1 rfl (lv_room (Nat.le_of_ble_eq_true rfl)) dX8_renderFurnace_73 ⟨Nat.zero_le _, Nat.zero_le _⟩) hS_152 (fun Y_158 H_159 locs_160 hW_161 hS_162 h_157 => ?_)
            replace h_157 : Y_158 = setRow (setRow (setRow (setRow X 15 w_153) 23 w_154) 15 (upd w_153 (8) (nI (0 + 1 + sb_dg m0 + 1 + sb_dg m1 + 1 + sb_dg m2 + 1 + sb_dg m3)))) 23 (wnR w_154 (0 + 1 + sb_dg m0 + 1 + sb_dg m1 + 1 + sb_dg m2 + 1) m3) := h_157
            obtain ⟨w_163, ew_163⟩ : ∃ Z9, Z9 = upd w_153 (8) (nI (0 + 1 + sb_dg m0 + 1 + sb_dg m1 + 1 + sb_dg m2 + 1 + sb_dg m3)) := ⟨_, rfl⟩
            obtain ⟨w_164, ew_164⟩ : ∃ Z9, Z9 = wnR w_154 (0 + 1 + sb_dg m0 + 1 + sb_dg m1 + 1 + sb_dg m2 + 1) m3 := ⟨_, rfl⟩
            have qqw_163 : Y_158 = setRow (setRow (setRow (setRow X 15 w_153) 23 w_154) 15 w_163) 23 w_164 := by rw [h_157, ew_163, ew_164]
            have hW_165 : Wd G (setRow (setRow X 15 w_163) 23 w_164) H_159 := Wd.cast (((qqw_163).trans (congrArg (fun Z9 => setRow (Z9) 23 w_164) (sr_in (by decide) sr_out))).trans (congrArg (fun Z9 => Z9) sr_out)) hW_161
            have kn_166 : w_163 (8) = nI (0 + 1 + sb_dg m0 + 1 + sb_dg m1 + 1 + sb_dg m2 + 1 + sb_dg m3) := by rw [ew_163]; exact pk_us
            refine lv_iinc (v := 4) (lv' := [(3, .int 4), (2, .int (nI (9 + 6 * f_17))), (0, .ref (ad G 723)), (1, .int (nI f_17))]) hx hb dX8_renderFurnace_76 hl_137 (k := 0) rfl (by decide) (by decide) rfl (fun ls_167 hl_168 => ?_)
            refine lv_goto (tgt := 37) hx hb dX8_renderFurnace_79 (by decide) ?_
            refine lv_iload_n hx hb dX8_renderFurnace_37 rfl (lv_at hl_168 0 rfl) ?_
            refine lv_iconst (v := 4) hx hb dX8_renderFurnace_38 (by decide) ?_
            refine lv_icmp_ge (tgt := 82) hx hb dX8_renderFurnace_39 (by decide) (fun _ => ?_) (fun h9 => absurd h9 (by decide))
            refine lv_aload_n hx hb dX8_renderFurnace_82 rfl (lv_at hl_168 2 rfl) ?_
            refine lv_bipush (v := 64) hx hb dX8_renderFurnace_83 (by decide) ?_
            refine g_callv (va_runV (As := [.int 64]) (rest := []) C.1 (cX8_writes_ok l G (setRow (setRow X 15 w_163) 23 w_164) (0 + 1 + sb_dg m0 + 1 + sb_dg m1 + 1 + sb_dg m2 + 1 + sb_dg m3) (show 0 + 1 + sb_dg m0 + 1 + sb_dg m1 + 1 + sb_dg m2 + 1 + sb_dg m3 < 40 by omega) kn_166 64) (cwV 1 C.1.2.2.2.2 (gV qw_1863 qw_1865 qw_59 qw_81 qw_1866) rfl rfl rfl (by decide +kernel) ⟨Nat.le_of_ble_eq_true rfl, Nat.le_of_ble_eq_true rfl⟩) (g_rModel C hW_165 hS_162 [.int 64]) rfl rfl hl_168.1 rfl (lv_room (Nat.le_of_ble_eq_true rfl)) dX8_renderFurnace_85 ⟨Nat.zero_le _, Nat.zero_le _⟩) hS_162 (fun Y_170 H_171 locs_172 hW_173 hS_174 h_169 => ?_)
            replace h_169 : Y_170 = setRow (setRow (setRow (setRow X 15 w_163) 23 w_164) 15 (upd w_163 (8) (nI (0 + 1 + sb_dg m0 + 1 + sb_dg m1 + 1 + sb_dg m2 + 1 + sb_dg m3 + 1)))) 23 (upd w_164 (0 + 1 + sb_dg m0 + 1 + sb_dg m1 + 1 + sb_dg m2 + 1 + sb_dg m3) 64) := h_169
            obtain ⟨w_175, ew_175⟩ : ∃ Z9, Z9 = upd w_163 (8) (nI (0 + 1 + sb_dg m0 + 1 + sb_dg m1 + 1 + sb_dg m2 + 1 + sb_dg m3 + 1)) := ⟨_, rfl⟩
            obtain ⟨w_176, ew_176⟩ : ∃ Z9, Z9 = upd w_164 (0 + 1 + sb_dg m0 + 1 + sb_dg m1 + 1 + sb_dg m2 + 1 + sb_dg m3) 64 := ⟨_, rfl⟩
            have qqw_175 : Y_170 = setRow (setRow (setRow (setRow X 15 w_163) 23 w_164) 15 w_175) 23 w_176 := by rw [h_169, ew_175, ew_176]
            have hW_177 : Wd G (setRow (setRow X 15 w_175) 23 w_176) H_171 := Wd.cast (((qqw_175).trans (congrArg (fun Z9 => setRow (Z9) 23 w_176) (sr_in (by decide) sr_out))).trans (congrArg (fun Z9 => Z9) sr_out)) hW_173
            have kn_178 : w_175 (8) = nI (0 + 1 + sb_dg m0 + 1 + sb_dg m1 + 1 + sb_dg m2 + 1 + sb_dg m3 + 1) := by rw [ew_175]; exact pk_us
            refine lv_aload_n hx hb dX8_renderFurnace_88 rfl (lv_at hl_168 2 rfl) ?_
            refine lv_aload_n hx hb dX8_renderFurnace_89 rfl (lv_at hl_168 2 rfl) ?_
            refine gM_v C hW_177 (hwc hwX8) (mc qw_1481) dX8_renderFurnace_90 ?_
            refine lv_iload_n hx hb dX8_renderFurnace_93 rfl (lv_at hl_168 1 rfl) ?_
            refine lv_iconst (v := 4) hx hb dX8_renderFurnace_94 (by decide) ?_
            refine lv_iadd hx hb dX8_renderFurnace_95 ?_
            refine g_top (y := nI ((9 + 6 * f_17) + 4)) (nI_add (9 + 6 * f_17) 4) ?_
            refine gm_vld C hW_177 ((9 + 6 * f_17) + 4) (nI_clamp (by omega)) (vp_in_nI (show (9 + 6 * f_17) + 4 < 128 by omega) (by decide)) dX8_renderFurnace_96 ?_
            refine g_top (y := X.1 16 ((9 + 6 * f_17) + 4)) (congrFun (rd_in (by decide) (rd_in (by decide) rfl)) _) ?_
            refine g_top (y := nI tt) em4 ?_
            refine g_callv (va_runV (As := [.int (nI tt)]) (rest := []) C.1 (cX8_writesNumber_ok l G (setRow (setRow X 15 w_175) 23 w_176) (0 + 1 + sb_dg m0 + 1 + sb_dg m1 + 1 + sb_dg m2 + 1 + sb_dg m3 + 1) (show 0 + 1 + sb_dg m0 + 1 + sb_dg m1 + 1 + sb_dg m2 + 1 + sb_dg m3 + 1 + 4 < 40 by omega) kn_178 tt (show tt < 10000 by omega)) (cwV 1 C.1.2.2.2.2 (gV qw_1867 qw_1869 qw_60 qw_81 qw_1870) rfl rfl rfl (by decide +kernel) ⟨Nat.le_of_ble_eq_true rfl, Nat.le_of_ble_eq_true rfl⟩) (g_rModel C hW_177 hS_174 [.int (nI tt)]) rfl rfl hl_168.1 rfl (lv_room (Nat.le_of_ble_eq_true rfl)) dX8_renderFurnace_97 ⟨Nat.zero_le _, Nat.zero_le _⟩) hS_174 (fun Y_180 H_181 locs_182 hW_183 hS_184 h_179 => ?_)
            replace h_179 : Y_180 = setRow (setRow (setRow (setRow X 15 w_175) 23 w_176) 15 (upd w_175 (8) (nI (0 + 1 + sb_dg m0 + 1 + sb_dg m1 + 1 + sb_dg m2 + 1 + sb_dg m3 + 1 + sb_dg tt)))) 23 (wnR w_176 (0 + 1 + sb_dg m0 + 1 + sb_dg m1 + 1 + sb_dg m2 + 1 + sb_dg m3 + 1) tt) := h_179
            obtain ⟨w_185, ew_185⟩ : ∃ Z9, Z9 = upd w_175 (8) (nI (0 + 1 + sb_dg m0 + 1 + sb_dg m1 + 1 + sb_dg m2 + 1 + sb_dg m3 + 1 + sb_dg tt)) := ⟨_, rfl⟩
            obtain ⟨w_186, ew_186⟩ : ∃ Z9, Z9 = wnR w_176 (0 + 1 + sb_dg m0 + 1 + sb_dg m1 + 1 + sb_dg m2 + 1 + sb_dg m3 + 1) tt := ⟨_, rfl⟩
            have qqw_185 : Y_180 = setRow (setRow (setRow (setRow X 15 w_175) 23 w_176) 15 w_185) 23 w_186 := by rw [h_179, ew_185, ew_186]
            have hW_187 : Wd G (setRow (setRow X 15 w_185) 23 w_186) H_181 := Wd.cast (((qqw_185).trans (congrArg (fun Z9 => setRow (Z9) 23 w_186) (sr_in (by decide) sr_out))).trans (congrArg (fun Z9 => Z9) sr_out)) hW_183
            have kn_188 : w_185 (8) = nI (0 + 1 + sb_dg m0 + 1 + sb_dg m1 + 1 + sb_dg m2 + 1 + sb_dg m3 + 1 + sb_dg tt) := by rw [ew_185]; exact pk_us
            refine lv_aload_n hx hb dX8_renderFurnace_100 rfl (lv_at hl_168 2 rfl) ?_
            refine gM_lineN C hW_187 (hwc hwX8) (mc qw_1495) dX8_renderFurnace_101 ?_
            refine g_top (y := w_185 (8)) (congrFun (rd_in (by decide) rd_out) _) ?_
            refine g_top (y := nI (0 + 1 + sb_dg m0 + 1 + sb_dg m1 + 1 + sb_dg m2 + 1 + sb_dg m3 + 1 + sb_dg tt)) kn_188 ?_
            exact g_iret C hr hlk hW_187 hS_184 dX8_renderFurnace_104 (by subst ew_186; subst ew_185; subst ew_176; subst ew_175; subst ew_164; subst ew_163; subst ew_154; subst ew_153; subst ew_133; subst ew_132; subst ew_123; subst ew_122; subst ew_102; subst ew_101; subst ew_92; subst ew_91; subst ew_71; subst ew_70; subst ew_61; subst ew_60; subst ew_39; subst ew_22; have e9 : rmS (X.1 16) (9 + 6 * f_17) (X.1 23) = (0 + 1 + sb_dg m0 + 1 + sb_dg m1 + 1 + sb_dg m2 + 1 + sb_dg m3 + 1 + sb_dg tt, _) := (by simp only [rmS, rmM, show X.1 16 (9 + 6 * f_17) = nI m0 from em0, em1, em2, em3, em4, clf (show m0 < 2 ^ 31 by omega), clf (show m1 < 2 ^ 31 by omega), clf (show m2 < 2 ^ 31 by omega), clf (show m3 < 2 ^ 31 by omega), clf (show tt < 2 ^ 31 by omega), b_45, b_76, b_107, b_138, if_true, if_false, Nat.zero_add]; first | done | rfl); exact ⟨by simp only [oM_renderFurnace, b_9, if_false, clf (show f_17 < 2 ^ 31 by omega), e9]; first | done | rfl, by simp only [oM_renderFurnace, b_9, if_false, clf (show f_17 < 2 ^ 31 by omega), e9, uu8]; first | done | rfl⟩)
          · have fb_138 : m3 = 0 := (nI_eq (a := m3) (b := 0) (by omega) (by omega)).mp b_138
            refine lv_goto (tgt := 76) hx hb dX8_renderFurnace_53 (by decide) ?_
            refine lv_iinc (v := 4) (lv' := [(3, .int 4), (2, .int (nI (9 + 6 * f_17))), (0, .ref (ad G 723)), (1, .int (nI f_17))]) hx hb dX8_renderFurnace_76 hl_137 (k := 0) rfl (by decide) (by decide) rfl (fun ls_189 hl_190 => ?_)
            refine lv_goto (tgt := 37) hx hb dX8_renderFurnace_79 (by decide) ?_
            refine lv_iload_n hx hb dX8_renderFurnace_37 rfl (lv_at hl_190 0 rfl) ?_
            refine lv_iconst (v := 4) hx hb dX8_renderFurnace_38 (by decide) ?_
            refine lv_icmp_ge (tgt := 82) hx hb dX8_renderFurnace_39 (by decide) (fun _ => ?_) (fun h9 => absurd h9 (by decide))
            refine lv_aload_n hx hb dX8_renderFurnace_82 rfl (lv_at hl_190 2 rfl) ?_
            refine lv_bipush (v := 64) hx hb dX8_renderFurnace_83 (by decide) ?_
            refine g_callv (va_runV (As := [.int 64]) (rest := []) C.1 (cX8_writes_ok l G (setRow (setRow X 15 w_132) 23 w_133) (0 + 1 + sb_dg m0 + 1 + sb_dg m1 + 1 + sb_dg m2) (show 0 + 1 + sb_dg m0 + 1 + sb_dg m1 + 1 + sb_dg m2 < 40 by omega) kn_135 64) (cwV 1 C.1.2.2.2.2 (gV qw_1863 qw_1865 qw_59 qw_81 qw_1866) rfl rfl rfl (by decide +kernel) ⟨Nat.le_of_ble_eq_true rfl, Nat.le_of_ble_eq_true rfl⟩) (g_rModel C hW_134 hS_131 [.int 64]) rfl rfl hl_190.1 rfl (lv_room (Nat.le_of_ble_eq_true rfl)) dX8_renderFurnace_85 ⟨Nat.zero_le _, Nat.zero_le _⟩) hS_131 (fun Y_192 H_193 locs_194 hW_195 hS_196 h_191 => ?_)
            replace h_191 : Y_192 = setRow (setRow (setRow (setRow X 15 w_132) 23 w_133) 15 (upd w_132 (8) (nI (0 + 1 + sb_dg m0 + 1 + sb_dg m1 + 1 + sb_dg m2 + 1)))) 23 (upd w_133 (0 + 1 + sb_dg m0 + 1 + sb_dg m1 + 1 + sb_dg m2) 64) := h_191
            obtain ⟨w_197, ew_197⟩ : ∃ Z9, Z9 = upd w_132 (8) (nI (0 + 1 + sb_dg m0 + 1 + sb_dg m1 + 1 + sb_dg m2 + 1)) := ⟨_, rfl⟩
            obtain ⟨w_198, ew_198⟩ : ∃ Z9, Z9 = upd w_133 (0 + 1 + sb_dg m0 + 1 + sb_dg m1 + 1 + sb_dg m2) 64 := ⟨_, rfl⟩
            have qqw_197 : Y_192 = setRow (setRow (setRow (setRow X 15 w_132) 23 w_133) 15 w_197) 23 w_198 := by rw [h_191, ew_197, ew_198]
            have hW_199 : Wd G (setRow (setRow X 15 w_197) 23 w_198) H_193 := Wd.cast (((qqw_197).trans (congrArg (fun Z9 => setRow (Z9) 23 w_198) (sr_in (by decide) sr_out))).trans (congrArg (fun Z9 => Z9) sr_out)) hW_195
            have kn_200 : w_197 (8) = nI (0 + 1 + sb_dg m0 + 1 + sb_dg m1 + 1 + sb_dg m2 + 1) := by rw [ew_197]; exact pk_us
            refine lv_aload_n hx hb dX8_renderFurnace_88 rfl (lv_at hl_190 2 rfl) ?_
            refine lv_aload_n hx hb dX8_renderFurnace_89 rfl (lv_at hl_190 2 rfl) ?_
            refine gM_v C hW_199 (hwc hwX8) (mc qw_1481) dX8_renderFurnace_90 ?_
            refine lv_iload_n hx hb dX8_renderFurnace_93 rfl (lv_at hl_190 1 rfl) ?_
            refine lv_iconst (v := 4) hx hb dX8_renderFurnace_94 (by decide) ?_
            refine lv_iadd hx hb dX8_renderFurnace_95 ?_
            refine g_top (y := nI ((9 + 6 * f_17) + 4)) (nI_add (9 + 6 * f_17) 4) ?_
            refine gm_vld C hW_199 ((9 + 6 * f_17) + 4) (nI_clamp (by omega)) (vp_in_nI (show (9 + 6 * f_17) + 4 < 128 by omega) (by decide)) dX8_renderFurnace_96 ?_
            refine g_top (y := X.1 16 ((9 + 6 * f_17) + 4)) (congrFun (rd_in (by decide) (rd_in (by decide) rfl)) _) ?_
            refine g_top (y := nI tt) em4 ?_
            refine g_callv (va_runV (As := [.int (nI tt)]) (rest := []) C.1 (cX8_writesNumber_ok l G (setRow (setRow X 15 w_197) 23 w_198) (0 + 1 + sb_dg m0 + 1 + sb_dg m1 + 1 + sb_dg m2 + 1) (show 0 + 1 + sb_dg m0 + 1 + sb_dg m1 + 1 + sb_dg m2 + 1 + 4 < 40 by omega) kn_200 tt (show tt < 10000 by omega)) (cwV 1 C.1.2.2.2.2 (gV qw_1867 qw_1869 qw_60 qw_81 qw_1870) rfl rfl rfl (by decide +kernel) ⟨Nat.le_of_ble_eq_true rfl, Nat.le_of_ble_eq_true rfl⟩) (g_rModel C hW_199 hS_196 [.int (nI tt)]) rfl rfl hl_190.1 rfl (lv_room (Nat.le_of_ble_eq_true rfl)) dX8_renderFurnace_97 ⟨Nat.zero_le _, Nat.zero_le _⟩) hS_196 (fun Y_202 H_203 locs_204 hW_205 hS_206 h_201 => ?_)
            replace h_201 : Y_202 = setRow (setRow (setRow (setRow X 15 w_197) 23 w_198) 15 (upd w_197 (8) (nI (0 + 1 + sb_dg m0 + 1 + sb_dg m1 + 1 + sb_dg m2 + 1 + sb_dg tt)))) 23 (wnR w_198 (0 + 1 + sb_dg m0 + 1 + sb_dg m1 + 1 + sb_dg m2 + 1) tt) := h_201
            obtain ⟨w_207, ew_207⟩ : ∃ Z9, Z9 = upd w_197 (8) (nI (0 + 1 + sb_dg m0 + 1 + sb_dg m1 + 1 + sb_dg m2 + 1 + sb_dg tt)) := ⟨_, rfl⟩
            obtain ⟨w_208, ew_208⟩ : ∃ Z9, Z9 = wnR w_198 (0 + 1 + sb_dg m0 + 1 + sb_dg m1 + 1 + sb_dg m2 + 1) tt := ⟨_, rfl⟩
            have qqw_207 : Y_202 = setRow (setRow (setRow (setRow X 15 w_197) 23 w_198) 15 w_207) 23 w_208 := by rw [h_201, ew_207, ew_208]
            have hW_209 : Wd G (setRow (setRow X 15 w_207) 23 w_208) H_203 := Wd.cast (((qqw_207).trans (congrArg (fun Z9 => setRow (Z9) 23 w_208) (sr_in (by decide) sr_out))).trans (congrArg (fun Z9 => Z9) sr_out)) hW_205
            have kn_210 : w_207 (8) = nI (0 + 1 + sb_dg m0 + 1 + sb_dg m1 + 1 + sb_dg m2 + 1 + sb_dg tt) := by rw [ew_207]; exact pk_us
            refine lv_aload_n hx hb dX8_renderFurnace_100 rfl (lv_at hl_190 2 rfl) ?_
            refine gM_lineN C hW_209 (hwc hwX8) (mc qw_1495) dX8_renderFurnace_101 ?_
            refine g_top (y := w_207 (8)) (congrFun (rd_in (by decide) rd_out) _) ?_
            refine g_top (y := nI (0 + 1 + sb_dg m0 + 1 + sb_dg m1 + 1 + sb_dg m2 + 1 + sb_dg tt)) kn_210 ?_
            exact g_iret C hr hlk hW_209 hS_206 dX8_renderFurnace_104 (by subst ew_208; subst ew_207; subst ew_198; subst ew_197; subst ew_133; subst ew_132; subst ew_123; subst ew_122; subst ew_102; subst ew_101; subst ew_92; subst ew_91; subst ew_71; subst ew_70; subst ew_61; subst ew_60; subst ew_39; subst ew_22; have e9 : rmS (X.1 16) (9 + 6 * f_17) (X.1 23) = (0 + 1 + sb_dg m0 + 1 + sb_dg m1 + 1 + sb_dg m2 + 1 + sb_dg tt, _) := (by simp only [rmS, rmM, show X.1 16 (9 + 6 * f_17) = nI m0 from em0, em1, em2, em3, em4, clf (show m0 < 2 ^ 31 by omega), clf (show m1 < 2 ^ 31 by omega), clf (show m2 < 2 ^ 31 by omega), clf (show m3 < 2 ^ 31 by omega), clf (show tt < 2 ^ 31 by omega), b_45, b_76, b_107, eq_true b_138, if_true, if_false, Nat.zero_add]; first | done | rfl); exact ⟨by simp only [oM_renderFurnace, b_9, if_false, clf (show f_17 < 2 ^ 31 by omega), e9]; first | done | rfl, by simp only [oM_renderFurnace, b_9, if_false, clf (show f_17 < 2 ^ 31 by omega), e9, uu8]; first | done | rfl⟩)
        · have fb_107 : m2 = 0 := (nI_eq (a := m2) (b := 0) (by omega) (by omega)).mp b_107
          refine lv_goto (tgt := 76) hx hb dX8_renderFurnace_53 (by decide) ?_
          refine lv_iinc (v := 3) (lv' := [(3, .int 3), (2, .int (nI (9 + 6 * f_17))), (0, .ref (ad G 723)), (1, .int (nI f_17))]) hx hb dX8_renderFurnace_76 hl_106 (k := 0) rfl (by decide) (by decide) rfl (fun ls_211 hl_212 => ?_)
          refine lv_goto (tgt := 37) hx hb dX8_renderFurnace_79 (by decide) ?_
          refine lv_iload_n hx hb dX8_renderFurnace_37 rfl (lv_at hl_212 0 rfl) ?_
          refine lv_iconst (v := 4) hx hb dX8_renderFurnace_38 (by decide) ?_
          refine lv_icmp_ge (tgt := 82) hx hb dX8_renderFurnace_39 (by decide) (fun h9 => absurd h9 (by decide)) (fun _ => ?_)
          refine lv_aload_n hx hb dX8_renderFurnace_42 rfl (lv_at hl_212 2 rfl) ?_
          refine gM_v C hW_103 (hwc hwX8) (mc qw_1481) dX8_renderFurnace_43 ?_
          refine lv_iload_n hx hb dX8_renderFurnace_46 rfl (lv_at hl_212 1 rfl) ?_
          refine lv_iload_n hx hb dX8_renderFurnace_47 rfl (lv_at hl_212 0 rfl) ?_
          refine lv_iadd hx hb dX8_renderFurnace_48 ?_
          refine g_top (y := nI ((9 + 6 * f_17) + 3)) (nI_add (9 + 6 * f_17) 3) ?_
          refine gm_vld C hW_103 ((9 + 6 * f_17) + 3) (nI_clamp (by omega)) (vp_in_nI (show (9 + 6 * f_17) + 3 < 128 by omega) (by decide)) dX8_renderFurnace_49 ?_
          refine g_top (y := X.1 16 ((9 + 6 * f_17) + 3)) (congrFun (rd_in (by decide) (rd_in (by decide) rfl)) _) ?_
          refine g_top (y := nI m3) em3 ?_
          refine lv_if_ne (tgt := 56) hx hb dX8_renderFurnace_50 (by decide) (fun b_213 => ?_) (fun b_213 => ?_)
          · have fb_213 : ¬ m3 = 0 := fun q9 => b_213 ((nI_eq (a := m3) (b := 0) (by omega) (by omega)).mpr q9)
            refine lv_aload_n hx hb dX8_renderFurnace_56 rfl (lv_at hl_212 2 rfl) ?_
            refine lv_iload_n hx hb dX8_renderFurnace_57 rfl (lv_at hl_212 0 rfl) ?_
            refine g_calli (va_runS (As := [.int 3]) (rest := [.ref (ad G 723)]) C.1 (cX8_letter_ok l G (setRow (setRow X 15 w_101) 23 w_102) 3) (va_cwS 1 C.1.2.2.2.2 (gS qw_1860 qw_1861 qw_81 qw_1862) rfl rfl rfl (by decide +kernel) ⟨Nat.le_of_ble_eq_true rfl, Nat.le_of_ble_eq_true rfl⟩) (g_pre C hW_103 hS_100 [.int 3]) rfl rfl hl_212.1 rfl (lv_room (Nat.le_of_ble_eq_true rfl)) dX8_renderFurnace_58 ⟨Nat.zero_le _, Nat.zero_le _⟩) hS_100 (fun r_215 Y_216 H_217 locs_218 hW_219 hS_220 h_214 => ?_)
            obtain ⟨h_214, hy_221⟩ := h_214
            replace hy_221 := hy_221.symm
            subst hy_221
            replace h_214 : r_215 = oM_letter 3 := h_214
            subst h_214
            refine g_callv (va_runV (As := [.int (oM_letter 3)]) (rest := []) C.1 (cX8_writes_ok l G (setRow (setRow X 15 w_101) 23 w_102) (0 + 1 + sb_dg m0 + 1 + sb_dg m1) (show 0 + 1 + sb_dg m0 + 1 + sb_dg m1 < 40 by omega) kn_104 (oM_letter 3)) (cwV 1 C.1.2.2.2.2 (gV qw_1863 qw_1865 qw_59 qw_81 qw_1866) rfl rfl rfl (by decide +kernel) ⟨Nat.le_of_ble_eq_true rfl, Nat.le_of_ble_eq_true rfl⟩) (g_rModel C hW_219 hS_220 [.int (oM_letter 3)]) rfl rfl hl_212.1 rfl (lv_room (Nat.le_of_ble_eq_true rfl)) dX8_renderFurnace_61 ⟨Nat.zero_le _, Nat.zero_le _⟩) hS_220 (fun Y_223 H_224 locs_225 hW_226 hS_227 h_222 => ?_)
            replace h_222 : Y_223 = setRow (setRow (setRow (setRow X 15 w_101) 23 w_102) 15 (upd w_101 (8) (nI (0 + 1 + sb_dg m0 + 1 + sb_dg m1 + 1)))) 23 (upd w_102 (0 + 1 + sb_dg m0 + 1 + sb_dg m1) (oM_letter 3)) := h_222
            obtain ⟨w_228, ew_228⟩ : ∃ Z9, Z9 = upd w_101 (8) (nI (0 + 1 + sb_dg m0 + 1 + sb_dg m1 + 1)) := ⟨_, rfl⟩
            obtain ⟨w_229, ew_229⟩ : ∃ Z9, Z9 = upd w_102 (0 + 1 + sb_dg m0 + 1 + sb_dg m1) (oM_letter 3) := ⟨_, rfl⟩
            have qqw_228 : Y_223 = setRow (setRow (setRow (setRow X 15 w_101) 23 w_102) 15 w_228) 23 w_229 := by rw [h_222, ew_228, ew_229]
            have hW_230 : Wd G (setRow (setRow X 15 w_228) 23 w_229) H_224 := Wd.cast (((qqw_228).trans (congrArg (fun Z9 => setRow (Z9) 23 w_229) (sr_in (by decide) sr_out))).trans (congrArg (fun Z9 => Z9) sr_out)) hW_226
            have kn_231 : w_228 (8) = nI (0 + 1 + sb_dg m0 + 1 + sb_dg m1 + 1) := by rw [ew_228]; exact pk_us
            refine lv_aload_n hx hb dX8_renderFurnace_64 rfl (lv_at hl_212 2 rfl) ?_
            refine lv_aload_n hx hb dX8_renderFurnace_65 rfl (lv_at hl_212 2 rfl) ?_
            refine gM_v C hW_230 (hwc hwX8) (mc qw_1481) dX8_renderFurnace_66 ?_
            refine lv_iload_n hx hb dX8_renderFurnace_69 rfl (lv_at hl_212 1 rfl) ?_
            refine lv_iload_n hx hb dX8_renderFurnace_70 rfl (lv_at hl_212 0 rfl) ?_
            refine lv_iadd hx hb dX8_renderFurnace_71 ?_
            refine g_top (y := nI ((9 + 6 * f_17) + 3)) (nI_add (9 + 6 * f_17) 3) ?_
            refine gm_vld C hW_230 ((9 + 6 * f_17) + 3) (nI_clamp (by omega)) (vp_in_nI (show (9 + 6 * f_17) + 3 < 128 by omega) (by decide)) dX8_renderFurnace_72 ?_
            refine g_top (y := X.1 16 ((9 + 6 * f_17) + 3)) (congrFun (rd_in (by decide) (rd_in (by decide) rfl)) _) ?_
            refine g_top (y := nI m3) em3 ?_
            refine g_callv (va_runV (As := [.int (nI m3)]) (rest := []) C.1 (cX8_writesNumber_ok l G (setRow (setRow X 15 w_228) 23 w_229) (0 + 1 + sb_dg m0 + 1 + sb_dg m1 + 1) (show 0 + 1 + sb_dg m0 + 1 + sb_dg m1 + 1 + 4 < 40 by omega) kn_231 m3 (show m3 < 10000 by omega)) (cwV 1 C.1.2.2.2.2 (gV qw_1867 qw_1869 qw_60 qw_81 qw_1870) rfl rfl rfl (by decide +kernel) ⟨Nat.le_of_ble_eq_true rfl, Nat.le_of_ble_eq_true rfl⟩) (g_rModel C hW_230 hS_227 [.int (nI m3)]) rfl rfl hl_212.1 rfl (lv_room (Nat.le_of_ble_eq_true rfl)) dX8_renderFurnace_73 ⟨Nat.zero_le _, Nat.zero_le _⟩) hS_227 (fun Y_233 H_234 locs_235 hW_236 hS_237 h_232 => ?_)
            replace h_232 : Y_233 = setRow (setRow (setRow (setRow X 15 w_228) 23 w_229) 15 (upd w_228 (8) (nI (0 + 1 + sb_dg m0 + 1 + sb_dg m1 + 1 + sb_dg m3)))) 23 (wnR w_229 (0 + 1 + sb_dg m0 + 1 + sb_dg m1 + 1) m3) := h_232
            obtain ⟨w_238, ew_238⟩ : ∃ Z9, Z9 = upd w_228 (8) (nI (0 + 1 + sb_dg m0 + 1 + sb_dg m1 + 1 + sb_dg m3)) := ⟨_, rfl⟩
            obtain ⟨w_239, ew_239⟩ : ∃ Z9, Z9 = wnR w_229 (0 + 1 + sb_dg m0 + 1 + sb_dg m1 + 1) m3 := ⟨_, rfl⟩
            have qqw_238 : Y_233 = setRow (setRow (setRow (setRow X 15 w_228) 23 w_229) 15 w_238) 23 w_239 := by rw [h_232, ew_238, ew_239]
            have hW_240 : Wd G (setRow (setRow X 15 w_238) 23 w_239) H_234 := Wd.cast (((qqw_238).trans (congrArg (fun Z9 => setRow (Z9) 23 w_239) (sr_in (by decide) sr_out))).trans (congrArg (fun Z9 => Z9) sr_out)) hW_236
            have kn_241 : w_238 (8) = nI (0 + 1 + sb_dg m0 + 1 + sb_dg m1 + 1 + sb_dg m3) := by rw [ew_238]; exact pk_us
            refine lv_iinc (v := 4) (lv' := [(3, .int 4), (2, .int (nI (9 + 6 * f_17))), (0, .ref (ad G 723)), (1, .int (nI f_17))]) hx hb dX8_renderFurnace_76 hl_212 (k := 0) rfl (by decide) (by decide) rfl (fun ls_242 hl_243 => ?_)
            refine lv_goto (tgt := 37) hx hb dX8_renderFurnace_79 (by decide) ?_
            refine lv_iload_n hx hb dX8_renderFurnace_37 rfl (lv_at hl_243 0 rfl) ?_
            refine lv_iconst (v := 4) hx hb dX8_renderFurnace_38 (by decide) ?_
            refine lv_icmp_ge (tgt := 82) hx hb dX8_renderFurnace_39 (by decide) (fun _ => ?_) (fun h9 => absurd h9 (by decide))
            refine lv_aload_n hx hb dX8_renderFurnace_82 rfl (lv_at hl_243 2 rfl) ?_
            refine lv_bipush (v := 64) hx hb dX8_renderFurnace_83 (by decide) ?_
            refine g_callv (va_runV (As := [.int 64]) (rest := []) C.1 (cX8_writes_ok l G (setRow (setRow X 15 w_238) 23 w_239) (0 + 1 + sb_dg m0 + 1 + sb_dg m1 + 1 + sb_dg m3) (show 0 + 1 + sb_dg m0 + 1 + sb_dg m1 + 1 + sb_dg m3 < 40 by omega) kn_241 64) (cwV 1 C.1.2.2.2.2 (gV qw_1863 qw_1865 qw_59 qw_81 qw_1866) rfl rfl rfl (by decide +kernel) ⟨Nat.le_of_ble_eq_true rfl, Nat.le_of_ble_eq_true rfl⟩) (g_rModel C hW_240 hS_237 [.int 64]) rfl rfl hl_243.1 rfl (lv_room (Nat.le_of_ble_eq_true rfl)) dX8_renderFurnace_85 ⟨Nat.zero_le _, Nat.zero_le _⟩) hS_237 (fun Y_245 H_246 locs_247 hW_248 hS_249 h_244 => ?_)
            replace h_244 : Y_245 = setRow (setRow (setRow (setRow X 15 w_238) 23 w_239) 15 (upd w_238 (8) (nI (0 + 1 + sb_dg m0 + 1 + sb_dg m1 + 1 + sb_dg m3 + 1)))) 23 (upd w_239 (0 + 1 + sb_dg m0 + 1 + sb_dg m1 + 1 + sb_dg m3) 64) := h_244
            obtain ⟨w_250, ew_250⟩ : ∃ Z9, Z9 = upd w_238 (8) (nI (0 + 1 + sb_dg m0 + 1 + sb_dg m1 + 1 + sb_dg m3 + 1)) := ⟨_, rfl⟩
            obtain ⟨w_251, ew_251⟩ : ∃ Z9, Z9 = upd w_239 (0 + 1 + sb_dg m0 + 1 + sb_dg m1 + 1 + sb_dg m3) 64 := ⟨_, rfl⟩
            have qqw_250 : Y_245 = setRow (setRow (setRow (setRow X 15 w_238) 23 w_239) 15 w_250) 23 w_251 := by rw [h_244, ew_250, ew_251]
            have hW_252 : Wd G (setRow (setRow X 15 w_250) 23 w_251) H_246 := Wd.cast (((qqw_250).trans (congrArg (fun Z9 => setRow (Z9) 23 w_251) (sr_in (by decide) sr_out))).trans (congrArg (fun Z9 => Z9) sr_out)) hW_248
            have kn_253 : w_250 (8) = nI (0 + 1 + sb_dg m0 + 1 + sb_dg m1 + 1 + sb_dg m3 + 1) := by rw [ew_250]; exact pk_us
            refine lv_aload_n hx hb dX8_renderFurnace_88 rfl (lv_at hl_243 2 rfl) ?_
            refine lv_aload_n hx hb dX8_renderFurnace_89 rfl (lv_at hl_243 2 rfl) ?_
            refine gM_v C hW_252 (hwc hwX8) (mc qw_1481) dX8_renderFurnace_90 ?_
            refine lv_iload_n hx hb dX8_renderFurnace_93 rfl (lv_at hl_243 1 rfl) ?_
            refine lv_iconst (v := 4) hx hb dX8_renderFurnace_94 (by decide) ?_
            refine lv_iadd hx hb dX8_renderFurnace_95 ?_
            refine g_top (y := nI ((9 + 6 * f_17) + 4)) (nI_add (9 + 6 * f_17) 4) ?_
            refine gm_vld C hW_252 ((9 + 6 * f_17) + 4) (nI_clamp (by omega)) (vp_in_nI (show (9 + 6 * f_17) + 4 < 128 by omega) (by decide)) dX8_renderFurnace_96 ?_
            refine g_top (y := X.1 16 ((9 + 6 * f_17) + 4)) (congrFun (rd_in (by decide) (rd_in (by decide) rfl)) _) ?_
            refine g_top (y := nI tt) em4 ?_
            refine g_callv (va_runV (As := [.int (nI tt)]) (rest := []) C.1 (cX8_writesNumber_ok l G (setRow (setRow X 15 w_250) 23 w_251) (0 + 1 + sb_dg m0 + 1 + sb_dg m1 + 1 + sb_dg m3 + 1) (show 0 + 1 + sb_dg m0 + 1 + sb_dg m1 + 1 + sb_dg m3 + 1 + 4 < 40 by omega) kn_253 tt (show tt < 10000 by omega)) (cwV 1 C.1.2.2.2.2 (gV qw_1867 qw_1869 qw_60 qw_81 qw_1870) rfl rfl rfl (by decide +kernel) ⟨Nat.le_of_ble_eq_true rfl, Nat.le_of_ble_eq_true rfl⟩) (g_rModel C hW_252 hS_249 [.int (nI tt)]) rfl rfl hl_243.1 rfl (lv_room (Nat.le_of_ble_eq_true rfl)) dX8_renderFurnace_97 ⟨Nat.zero_le _, Nat.zero_le _⟩) hS_249 (fun Y_255 H_256 locs_257 hW_258 hS_259 h_254 => ?_)
            replace h_254 : Y_255 = setRow (setRow (setRow (setRow X 15 w_250) 23 w_251) 15 (upd w_250 (8) (nI (0 + 1 + sb_dg m0 + 1 + sb_dg m1 + 1 + sb_dg m3 + 1 + sb_dg tt)))) 23 (wnR w_251 (0 + 1 + sb_dg m0 + 1 + sb_dg m1 + 1 + sb_dg m3 + 1) tt) := h_254
            obtain ⟨w_260, ew_260⟩ : ∃ Z9, Z9 = upd w_250 (8) (nI (0 + 1 + sb_dg m0 + 1 + sb_dg m1 + 1 + sb_dg m3 + 1 + sb_dg tt)) := ⟨_, rfl⟩
            obtain ⟨w_261, ew_261⟩ : ∃ Z9, Z9 = wnR w_251 (0 + 1 + sb_dg m0 + 1 + sb_dg m1 + 1 + sb_dg m3 + 1) tt := ⟨_, rfl⟩
            have qqw_260 : Y_255 = setRow (setRow (setRow (setRow X 15 w_250) 23 w_251) 15 w_260) 23 w_261 := by rw [h_254, ew_260, ew_261]
            have hW_262 : Wd G (setRow (setRow X 15 w_260) 23 w_261) H_256 := Wd.cast (((qqw_260).trans (congrArg (fun Z9 => setRow (Z9) 23 w_261) (sr_in (by decide) sr_out))).trans (congrArg (fun Z9 => Z9) sr_out)) hW_258
            have kn_263 : w_260 (8) = nI (0 + 1 + sb_dg m0 + 1 + sb_dg m1 + 1 + sb_dg m3 + 1 + sb_dg tt) := by rw [ew_260]; exact pk_us
            refine lv_aload_n hx hb dX8_renderFurnace_100 rfl (lv_at hl_243 2 rfl) ?_
            refine gM_lineN C hW_262 (hwc hwX8) (mc qw_1495) dX8_renderFurnace_101 ?_
            refine g_top (y := w_260 (8)) (congrFun (rd_in (by decide) rd_out) _) ?_
            refine g_top (y := nI (0 + 1 + sb_dg m0 + 1 + sb_dg m1 + 1 + sb_dg m3 + 1 + sb_dg tt)) kn_263 ?_
            exact g_iret C hr hlk hW_262 hS_259 dX8_renderFurnace_104 (by subst ew_261; subst ew_260; subst ew_251; subst ew_250; subst ew_239; subst ew_238; subst ew_229; subst ew_228; subst ew_102; subst ew_101; subst ew_92; subst ew_91; subst ew_71; subst ew_70; subst ew_61; subst ew_60; subst ew_39; subst ew_22; have e9 : rmS (X.1 16) (9 + 6 * f_17) (X.1 23) = (0 + 1 + sb_dg m0 + 1 + sb_dg m1 + 1 + sb_dg m3 + 1 + sb_dg tt, _) := (by simp only [rmS, rmM, show X.1 16 (9 + 6 * f_17) = nI m0 from em0, em1, em2, em3, em4, clf (show m0 < 2 ^ 31 by omega), clf (show m1 < 2 ^ 31 by omega), clf (show m2 < 2 ^ 31 by omega), clf (show m3 < 2 ^ 31 by omega), clf (show tt < 2 ^ 31 by omega), b_45, b_76, eq_true b_107, b_213, if_true, if_false, Nat.zero_add]; first | done | rfl); exact ⟨by simp only [oM_renderFurnace, b_9, if_false, clf (show f_17 < 2 ^ 31 by omega), e9]; first | done | rfl, by simp only [oM_renderFurnace, b_9, if_false, clf (show f_17 < 2 ^ 31 by omega), e9, uu8]; first | done | rfl⟩)
          · have fb_213 : m3 = 0 := (nI_eq (a := m3) (b := 0) (by omega) (by omega)).mp b_213
            refine lv_goto (tgt := 76) hx hb dX8_renderFurnace_53 (by decide) ?_
            refine lv_iinc (v := 4) (lv' := [(3, .int 4), (2, .int (nI (9 + 6 * f_17))), (0, .ref (ad G 723)), (1, .int (nI f_17))]) hx hb dX8_renderFurnace_76 hl_212 (k := 0) rfl (by decide) (by decide) rfl (fun ls_264 hl_265 => ?_)
            refine lv_goto (tgt := 37) hx hb dX8_renderFurnace_79 (by decide) ?_
            refine lv_iload_n hx hb dX8_renderFurnace_37 rfl (lv_at hl_265 0 rfl) ?_
            refine lv_iconst (v := 4) hx hb dX8_renderFurnace_38 (by decide) ?_
            refine lv_icmp_ge (tgt := 82) hx hb dX8_renderFurnace_39 (by decide) (fun _ => ?_) (fun h9 => absurd h9 (by decide))
            refine lv_aload_n hx hb dX8_renderFurnace_82 rfl (lv_at hl_265 2 rfl) ?_
            refine lv_bipush (v := 64) hx hb dX8_renderFurnace_83 (by decide) ?_
            refine g_callv (va_runV (As := [.int 64]) (rest := []) C.1 (cX8_writes_ok l G (setRow (setRow X 15 w_101) 23 w_102) (0 + 1 + sb_dg m0 + 1 + sb_dg m1) (show 0 + 1 + sb_dg m0 + 1 + sb_dg m1 < 40 by omega) kn_104 64) (cwV 1 C.1.2.2.2.2 (gV qw_1863 qw_1865 qw_59 qw_81 qw_1866) rfl rfl rfl (by decide +kernel) ⟨Nat.le_of_ble_eq_true rfl, Nat.le_of_ble_eq_true rfl⟩) (g_rModel C hW_103 hS_100 [.int 64]) rfl rfl hl_265.1 rfl (lv_room (Nat.le_of_ble_eq_true rfl)) dX8_renderFurnace_85 ⟨Nat.zero_le _, Nat.zero_le _⟩) hS_100 (fun Y_267 H_268 locs_269 hW_270 hS_271 h_266 => ?_)
            replace h_266 : Y_267 = setRow (setRow (setRow (setRow X 15 w_101) 23 w_102) 15 (upd w_101 (8) (nI (0 + 1 + sb_dg m0 + 1 + sb_dg m1 + 1)))) 23 (upd w_102 (0 + 1 + sb_dg m0 + 1 + sb_dg m1) 64) := h_266
            obtain ⟨w_272, ew_272⟩ : ∃ Z9, Z9 = upd w_101 (8) (nI (0 + 1 + sb_dg m0 + 1 + sb_dg m1 + 1)) := ⟨_, rfl⟩
            obtain ⟨w_273, ew_273⟩ : ∃ Z9, Z9 = upd w_102 (0 + 1 + sb_dg m0 + 1 + sb_dg m1) 64 := ⟨_, rfl⟩
            have qqw_272 : Y_267 = setRow (setRow (setRow (setRow X 15 w_101) 23 w_102) 15 w_272) 23 w_273 := by rw [h_266, ew_272, ew_273]
            have hW_274 : Wd G (setRow (setRow X 15 w_272) 23 w_273) H_268 := Wd.cast (((qqw_272).trans (congrArg (fun Z9 => setRow (Z9) 23 w_273) (sr_in (by decide) sr_out))).trans (congrArg (fun Z9 => Z9) sr_out)) hW_270
            have kn_275 : w_272 (8) = nI (0 + 1 + sb_dg m0 + 1 + sb_dg m1 + 1) := by rw [ew_272]; exact pk_us
            refine lv_aload_n hx hb dX8_renderFurnace_88 rfl (lv_at hl_265 2 rfl) ?_
            refine lv_aload_n hx hb dX8_renderFurnace_89 rfl (lv_at hl_265 2 rfl) ?_
            refine gM_v C hW_274 (hwc hwX8) (mc qw_1481) dX8_renderFurnace_90 ?_
            refine lv_iload_n hx hb dX8_renderFurnace_93 rfl (lv_at hl_265 1 rfl) ?_
            refine lv_iconst (v := 4) hx hb dX8_renderFurnace_94 (by decide) ?_
            refine lv_iadd hx hb dX8_renderFurnace_95 ?_
            refine g_top (y := nI ((9 + 6 * f_17) + 4)) (nI_add (9 + 6 * f_17) 4) ?_
            refine gm_vld C hW_274 ((9 + 6 * f_17) + 4) (nI_clamp (by omega)) (vp_in_nI (show (9 + 6 * f_17) + 4 < 128 by omega) (by decide)) dX8_renderFurnace_96 ?_
            refine g_top (y := X.1 16 ((9 + 6 * f_17) + 4)) (congrFun (rd_in (by decide) (rd_in (by decide) rfl)) _) ?_
            refine g_top (y := nI tt) em4 ?_
            refine g_callv (va_runV (As := [.int (nI tt)]) (rest := []) C.1 (cX8_writesNumber_ok l G (setRow (setRow X 15 w_272) 23 w_273) (0 + 1 + sb_dg m0 + 1 + sb_dg m1 + 1) (show 0 + 1 + sb_dg m0 + 1 + sb_dg m1 + 1 + 4 < 40 by omega) kn_275 tt (show tt < 10000 by omega)) (cwV 1 C.1.2.2.2.2 (gV qw_1867 qw_1869 qw_60 qw_81 qw_1870) rfl rfl rfl (by decide +kernel) ⟨Nat.le_of_ble_eq_true rfl, Nat.le_of_ble_eq_true rfl⟩) (g_rModel C hW_274 hS_271 [.int (nI tt)]) rfl rfl hl_265.1 rfl (lv_room (Nat.le_of_ble_eq_true rfl)) dX8_renderFurnace_97 ⟨Nat.zero_le _, Nat.zero_le _⟩) hS_271 (fun Y_277 H_278 locs_279 hW_280 hS_281 h_276 => ?_)
            replace h_276 : Y_277 = setRow (setRow (setRow (setRow X 15 w_272) 23 w_273) 15 (upd w_272 (8) (nI (0 + 1 + sb_dg m0 + 1 + sb_dg m1 + 1 + sb_dg tt)))) 23 (wnR w_273 (0 + 1 + sb_dg m0 + 1 + sb_dg m1 + 1) tt) := h_276
            obtain ⟨w_282, ew_282⟩ : ∃ Z9, Z9 = upd w_272 (8) (nI (0 + 1 + sb_dg m0 + 1 + sb_dg m1 + 1 + sb_dg tt)) := ⟨_, rfl⟩
            obtain ⟨w_283, ew_283⟩ : ∃ Z9, Z9 = wnR w_273 (0 + 1 + sb_dg m0 + 1 + sb_dg m1 + 1) tt := ⟨_, rfl⟩
            have qqw_282 : Y_277 = setRow (setRow (setRow (setRow X 15 w_272) 23 w_273) 15 w_282) 23 w_283 := by rw [h_276, ew_282, ew_283]
            have hW_284 : Wd G (setRow (setRow X 15 w_282) 23 w_283) H_278 := Wd.cast (((qqw_282).trans (congrArg (fun Z9 => setRow (Z9) 23 w_283) (sr_in (by decide) sr_out))).trans (congrArg (fun Z9 => Z9) sr_out)) hW_280
            have kn_285 : w_282 (8) = nI (0 + 1 + sb_dg m0 + 1 + sb_dg m1 + 1 + sb_dg tt) := by rw [ew_282]; exact pk_us
            refine lv_aload_n hx hb dX8_renderFurnace_100 rfl (lv_at hl_265 2 rfl) ?_
            refine gM_lineN C hW_284 (hwc hwX8) (mc qw_1495) dX8_renderFurnace_101 ?_
            refine g_top (y := w_282 (8)) (congrFun (rd_in (by decide) rd_out) _) ?_
            refine g_top (y := nI (0 + 1 + sb_dg m0 + 1 + sb_dg m1 + 1 + sb_dg tt)) kn_285 ?_
            exact g_iret C hr hlk hW_284 hS_281 dX8_renderFurnace_104 (by subst ew_283; subst ew_282; subst ew_273; subst ew_272; subst ew_102; subst ew_101; subst ew_92; subst ew_91; subst ew_71; subst ew_70; subst ew_61; subst ew_60; subst ew_39; subst ew_22; have e9 : rmS (X.1 16) (9 + 6 * f_17) (X.1 23) = (0 + 1 + sb_dg m0 + 1 + sb_dg m1 + 1 + sb_dg tt, _) := (by simp only [rmS, rmM, show X.1 16 (9 + 6 * f_17) = nI m0 from em0, em1, em2, em3, em4, clf (show m0 < 2 ^ 31 by omega), clf (show m1 < 2 ^ 31 by omega), clf (show m2 < 2 ^ 31 by omega), clf (show m3 < 2 ^ 31 by omega), clf (show tt < 2 ^ 31 by omega), b_45, b_76, eq_true b_107, eq_true b_213, if_true, if_false, Nat.zero_add]; first | done | rfl); exact ⟨by simp only [oM_renderFurnace, b_9, if_false, clf (show f_17 < 2 ^ 31 by omega), e9]; first | done | rfl, by simp only [oM_renderFurnace, b_9, if_false, clf (show f_17 < 2 ^ 31 by omega), e9, uu8]; first | done | rfl⟩)
      · have fb_76 : m1 = 0 := (nI_eq (a := m1) (b := 0) (by omega) (by omega)).mp b_76
        refine lv_goto (tgt := 76) hx hb dX8_renderFurnace_53 (by decide) ?_
        refine lv_iinc (v := 2) (lv' := [(3, .int 2), (2, .int (nI (9 + 6 * f_17))), (0, .ref (ad G 723)), (1, .int (nI f_17))]) hx hb dX8_renderFurnace_76 hl_75 (k := 0) rfl (by decide) (by decide) rfl (fun ls_286 hl_287 => ?_)
        refine lv_goto (tgt := 37) hx hb dX8_renderFurnace_79 (by decide) ?_
        refine lv_iload_n hx hb dX8_renderFurnace_37 rfl (lv_at hl_287 0 rfl) ?_
        refine lv_iconst (v := 4) hx hb dX8_renderFurnace_38 (by decide) ?_
        refine lv_icmp_ge (tgt := 82) hx hb dX8_renderFurnace_39 (by decide) (fun h9 => absurd h9 (by decide)) (fun _ => ?_)
        refine lv_aload_n hx hb dX8_renderFurnace_42 rfl (lv_at hl_287 2 rfl) ?_
        refine gM_v C hW_72 (hwc hwX8) (mc qw_1481) dX8_renderFurnace_43 ?_
        refine lv_iload_n hx hb dX8_renderFurnace_46 rfl (lv_at hl_287 1 rfl) ?_
        refine lv_iload_n hx hb dX8_renderFurnace_47 rfl (lv_at hl_287 0 rfl) ?_
        refine lv_iadd hx hb dX8_renderFurnace_48 ?_
        refine g_top (y := nI ((9 + 6 * f_17) + 2)) (nI_add (9 + 6 * f_17) 2) ?_
        refine gm_vld C hW_72 ((9 + 6 * f_17) + 2) (nI_clamp (by omega)) (vp_in_nI (show (9 + 6 * f_17) + 2 < 128 by omega) (by decide)) dX8_renderFurnace_49 ?_
        refine g_top (y := X.1 16 ((9 + 6 * f_17) + 2)) (congrFun (rd_in (by decide) (rd_in (by decide) rfl)) _) ?_
        refine g_top (y := nI m2) em2 ?_
        refine lv_if_ne (tgt := 56) hx hb dX8_renderFurnace_50 (by decide) (fun b_288 => ?_) (fun b_288 => ?_)
        · have fb_288 : ¬ m2 = 0 := fun q9 => b_288 ((nI_eq (a := m2) (b := 0) (by omega) (by omega)).mpr q9)
          refine lv_aload_n hx hb dX8_renderFurnace_56 rfl (lv_at hl_287 2 rfl) ?_
          refine lv_iload_n hx hb dX8_renderFurnace_57 rfl (lv_at hl_287 0 rfl) ?_
          refine g_calli (va_runS (As := [.int 2]) (rest := [.ref (ad G 723)]) C.1 (cX8_letter_ok l G (setRow (setRow X 15 w_70) 23 w_71) 2) (va_cwS 1 C.1.2.2.2.2 (gS qw_1860 qw_1861 qw_81 qw_1862) rfl rfl rfl (by decide +kernel) ⟨Nat.le_of_ble_eq_true rfl, Nat.le_of_ble_eq_true rfl⟩) (g_pre C hW_72 hS_69 [.int 2]) rfl rfl hl_287.1 rfl (lv_room (Nat.le_of_ble_eq_true rfl)) dX8_renderFurnace_58 ⟨Nat.zero_le _, Nat.zero_le _⟩) hS_69 (fun r_290 Y_291 H_292 locs_293 hW_294 hS_295 h_289 => ?_)
          obtain ⟨h_289, hy_296⟩ := h_289
          replace hy_296 := hy_296.symm
          subst hy_296
          replace h_289 : r_290 = oM_letter 2 := h_289
          subst h_289
          refine g_callv (va_runV (As := [.int (oM_letter 2)]) (rest := []) C.1 (cX8_writes_ok l G (setRow (setRow X 15 w_70) 23 w_71) (0 + 1 + sb_dg m0) (show 0 + 1 + sb_dg m0 < 40 by omega) kn_73 (oM_letter 2)) (cwV 1 C.1.2.2.2.2 (gV qw_1863 qw_1865 qw_59 qw_81 qw_1866) rfl rfl rfl (by decide +kernel) ⟨Nat.le_of_ble_eq_true rfl, Nat.le_of_ble_eq_true rfl⟩) (g_rModel C hW_294 hS_295 [.int (oM_letter 2)]) rfl rfl hl_287.1 rfl (lv_room (Nat.le_of_ble_eq_true rfl)) dX8_renderFurnace_61 ⟨Nat.zero_le _, Nat.zero_le _⟩) hS_295 (fun Y_298 H_299 locs_300 hW_301 hS_302 h_297 => ?_)
          replace h_297 : Y_298 = setRow (setRow (setRow (setRow X 15 w_70) 23 w_71) 15 (upd w_70 (8) (nI (0 + 1 + sb_dg m0 + 1)))) 23 (upd w_71 (0 + 1 + sb_dg m0) (oM_letter 2)) := h_297
          obtain ⟨w_303, ew_303⟩ : ∃ Z9, Z9 = upd w_70 (8) (nI (0 + 1 + sb_dg m0 + 1)) := ⟨_, rfl⟩
          obtain ⟨w_304, ew_304⟩ : ∃ Z9, Z9 = upd w_71 (0 + 1 + sb_dg m0) (oM_letter 2) := ⟨_, rfl⟩
          have qqw_303 : Y_298 = setRow (setRow (setRow (setRow X 15 w_70) 23 w_71) 15 w_303) 23 w_304 := by rw [h_297, ew_303, ew_304]
          have hW_305 : Wd G (setRow (setRow X 15 w_303) 23 w_304) H_299 := Wd.cast (((qqw_303).trans (congrArg (fun Z9 => setRow (Z9) 23 w_304) (sr_in (by decide) sr_out))).trans (congrArg (fun Z9 => Z9) sr_out)) hW_301
          have kn_306 : w_303 (8) = nI (0 + 1 + sb_dg m0 + 1) := by rw [ew_303]; exact pk_us
          refine lv_aload_n hx hb dX8_renderFurnace_64 rfl (lv_at hl_287 2 rfl) ?_
          refine lv_aload_n hx hb dX8_renderFurnace_65 rfl (lv_at hl_287 2 rfl) ?_
          refine gM_v C hW_305 (hwc hwX8) (mc qw_1481) dX8_renderFurnace_66 ?_
          refine lv_iload_n hx hb dX8_renderFurnace_69 rfl (lv_at hl_287 1 rfl) ?_
          refine lv_iload_n hx hb dX8_renderFurnace_70 rfl (lv_at hl_287 0 rfl) ?_
          refine lv_iadd hx hb dX8_renderFurnace_71 ?_
          refine g_top (y := nI ((9 + 6 * f_17) + 2)) (nI_add (9 + 6 * f_17) 2) ?_
          refine gm_vld C hW_305 ((9 + 6 * f_17) + 2) (nI_clamp (by omega)) (vp_in_nI (show (9 + 6 * f_17) + 2 < 128 by omega) (by decide)) dX8_renderFurnace_72 ?_
          refine g_top (y := X.1 16 ((9 + 6 * f_17) + 2)) (congrFun (rd_in (by decide) (rd_in (by decide) rfl)) _) ?_
          refine g_top (y := nI m2) em2 ?_
          refine g_callv (va_runV (As := [.int (nI m2)]) (rest := []) C.1 (cX8_writesNumber_ok l G (setRow (setRow X 15 w_303) 23 w_304) (0 + 1 + sb_dg m0 + 1) (show 0 + 1 + sb_dg m0 + 1 + 4 < 40 by omega) kn_306 m2 (show m2 < 10000 by omega)) (cwV 1 C.1.2.2.2.2 (gV qw_1867 qw_1869 qw_60 qw_81 qw_1870) rfl rfl rfl (by decide +kernel) ⟨Nat.le_of_ble_eq_true rfl, Nat.le_of_ble_eq_true rfl⟩) (g_rModel C hW_305 hS_302 [.int (nI m2)]) rfl rfl hl_287.1 rfl (lv_room (Nat.le_of_ble_eq_true rfl)) dX8_renderFurnace_73 ⟨Nat.zero_le _, Nat.zero_le _⟩) hS_302 (fun Y_308 H_309 locs_310 hW_311 hS_312 h_307 => ?_)
          replace h_307 : Y_308 = setRow (setRow (setRow (setRow X 15 w_303) 23 w_304) 15 (upd w_303 (8) (nI (0 + 1 + sb_dg m0 + 1 + sb_dg m2)))) 23 (wnR w_304 (0 + 1 + sb_dg m0 + 1) m2) := h_307
          obtain ⟨w_313, ew_313⟩ : ∃ Z9, Z9 = upd w_303 (8) (nI (0 + 1 + sb_dg m0 + 1 + sb_dg m2)) := ⟨_, rfl⟩
          obtain ⟨w_314, ew_314⟩ : ∃ Z9, Z9 = wnR w_304 (0 + 1 + sb_dg m0 + 1) m2 := ⟨_, rfl⟩
          have qqw_313 : Y_308 = setRow (setRow (setRow (setRow X 15 w_303) 23 w_304) 15 w_313) 23 w_314 := by rw [h_307, ew_313, ew_314]
          have hW_315 : Wd G (setRow (setRow X 15 w_313) 23 w_314) H_309 := Wd.cast (((qqw_313).trans (congrArg (fun Z9 => setRow (Z9) 23 w_314) (sr_in (by decide) sr_out))).trans (congrArg (fun Z9 => Z9) sr_out)) hW_311
          have kn_316 : w_313 (8) = nI (0 + 1 + sb_dg m0 + 1 + sb_dg m2) := by rw [ew_313]; exact pk_us
          refine lv_iinc (v := 3) (lv' := [(3, .int 3), (2, .int (nI (9 + 6 * f_17))), (0, .ref (ad G 723)), (1, .int (nI f_17))]) hx hb dX8_renderFurnace_76 hl_287 (k := 0) rfl (by decide) (by decide) rfl (fun ls_317 hl_318 => ?_)
          refine lv_goto (tgt := 37) hx hb dX8_renderFurnace_79 (by decide) ?_
          refine lv_iload_n hx hb dX8_renderFurnace_37 rfl (lv_at hl_318 0 rfl) ?_
          refine lv_iconst (v := 4) hx hb dX8_renderFurnace_38 (by decide) ?_
          refine lv_icmp_ge (tgt := 82) hx hb dX8_renderFurnace_39 (by decide) (fun h9 => absurd h9 (by decide)) (fun _ => ?_)
          refine lv_aload_n hx hb dX8_renderFurnace_42 rfl (lv_at hl_318 2 rfl) ?_
          refine gM_v C hW_315 (hwc hwX8) (mc qw_1481) dX8_renderFurnace_43 ?_
          refine lv_iload_n hx hb dX8_renderFurnace_46 rfl (lv_at hl_318 1 rfl) ?_
          refine lv_iload_n hx hb dX8_renderFurnace_47 rfl (lv_at hl_318 0 rfl) ?_
          refine lv_iadd hx hb dX8_renderFurnace_48 ?_
          refine g_top (y := nI ((9 + 6 * f_17) + 3)) (nI_add (9 + 6 * f_17) 3) ?_
          refine gm_vld C hW_315 ((9 + 6 * f_17) + 3) (nI_clamp (by omega)) (vp_in_nI (show (9 + 6 * f_17) + 3 < 128 by omega) (by decide)) dX8_renderFurnace_49 ?_
          refine g_top (y := X.1 16 ((9 + 6 * f_17) + 3)) (congrFun (rd_in (by decide) (rd_in (by decide) rfl)) _) ?_
          refine g_top (y := nI m3) em3 ?_
          refine lv_if_ne (tgt := 56) hx hb dX8_renderFurnace_50 (by decide) (fun b_319 => ?_) (fun b_319 => ?_)
          · have fb_319 : ¬ m3 = 0 := fun q9 => b_319 ((nI_eq (a := m3) (b := 0) (by omega) (by omega)).mpr q9)
            refine lv_aload_n hx hb dX8_renderFurnace_56 rfl (lv_at hl_318 2 rfl) ?_
            refine lv_iload_n hx hb dX8_renderFurnace_57 rfl (lv_at hl_318 0 rfl) ?_
            refine g_calli (va_runS (As := [.int 3]) (rest := [.ref (ad G 723)]) C.1 (cX8_letter_ok l G (setRow (setRow X 15 w_313) 23 w_314) 3) (va_cwS 1 C.1.2.2.2.2 (gS qw_1860 qw_1861 qw_81 qw_1862) rfl rfl rfl (by decide +kernel) ⟨Nat.le_of_ble_eq_true rfl, Nat.le_of_ble_eq_true rfl⟩) (g_pre C hW_315 hS_312 [.int 3]) rfl rfl hl_318.1 rfl (lv_room (Nat.le_of_ble_eq_true rfl)) dX8_renderFurnace_58 ⟨Nat.zero_le _, Nat.zero_le _⟩) hS_312 (fun r_321 Y_322 H_323 locs_324 hW_325 hS_326 h_320 => ?_)
            obtain ⟨h_320, hy_327⟩ := h_320
            replace hy_327 := hy_327.symm
            subst hy_327
            replace h_320 : r_321 = oM_letter 3 := h_320
            subst h_320
            refine g_callv (va_runV (As := [.int (oM_letter 3)]) (rest := []) C.1 (cX8_writes_ok l G (setRow (setRow X 15 w_313) 23 w_314) (0 + 1 + sb_dg m0 + 1 + sb_dg m2) (show 0 + 1 + sb_dg m0 + 1 + sb_dg m2 < 40 by omega) kn_316 (oM_letter 3)) (cwV 1 C.1.2.2.2.2 (gV qw_1863 qw_1865 qw_59 qw_81 qw_1866) rfl rfl rfl (by decide +kernel) ⟨Nat.le_of_ble_eq_true rfl, Nat.le_of_ble_eq_true rfl⟩) (g_rModel C hW_325 hS_326 [.int (oM_letter 3)]) rfl rfl hl_318.1 rfl (lv_room (Nat.le_of_ble_eq_true rfl)) dX8_renderFurnace_61 ⟨Nat.zero_le _, Nat.zero_le _⟩) hS_326 (fun Y_329 H_330 locs_331 hW_332 hS_333 h_328 => ?_)
            replace h_328 : Y_329 = setRow (setRow (setRow (setRow X 15 w_313) 23 w_314) 15 (upd w_313 (8) (nI (0 + 1 + sb_dg m0 + 1 + sb_dg m2 + 1)))) 23 (upd w_314 (0 + 1 + sb_dg m0 + 1 + sb_dg m2) (oM_letter 3)) := h_328
            obtain ⟨w_334, ew_334⟩ : ∃ Z9, Z9 = upd w_313 (8) (nI (0 + 1 + sb_dg m0 + 1 + sb_dg m2 + 1)) := ⟨_, rfl⟩
            obtain ⟨w_335, ew_335⟩ : ∃ Z9, Z9 = upd w_314 (0 + 1 + sb_dg m0 + 1 + sb_dg m2) (oM_letter 3) := ⟨_, rfl⟩
            have qqw_334 : Y_329 = setRow (setRow (setRow (setRow X 15 w_313) 23 w_314) 15 w_334) 23 w_335 := by rw [h_328, ew_334, ew_335]
            have hW_336 : Wd G (setRow (setRow X 15 w_334) 23 w_335) H_330 := Wd.cast (((qqw_334).trans (congrArg (fun Z9 => setRow (Z9) 23 w_335) (sr_in (by decide) sr_out))).trans (congrArg (fun Z9 => Z9) sr_out)) hW_332
            have kn_337 : w_334 (8) = nI (0 + 1 + sb_dg m0 + 1 + sb_dg m2 + 1) := by rw [ew_334]; exact pk_us
            refine lv_aload_n hx hb dX8_renderFurnace_64 rfl (lv_at hl_318 2 rfl) ?_
            refine lv_aload_n hx hb dX8_renderFurnace_65 rfl (lv_at hl_318 2 rfl) ?_
            refine gM_v C hW_336 (hwc hwX8) (mc qw_1481) dX8_renderFurnace_66 ?_
            refine lv_iload_n hx hb dX8_renderFurnace_69 rfl (lv_at hl_318 1 rfl) ?_
            refine lv_iload_n hx hb dX8_renderFurnace_70 rfl (lv_at hl_318 0 rfl) ?_
            refine lv_iadd hx hb dX8_renderFurnace_71 ?_
            refine g_top (y := nI ((9 + 6 * f_17) + 3)) (nI_add (9 + 6 * f_17) 3) ?_
            refine gm_vld C hW_336 ((9 + 6 * f_17) + 3) (nI_clamp (by omega)) (vp_in_nI (show (9 + 6 * f_17) + 3 < 128 by omega) (by decide)) dX8_renderFurnace_72 ?_
            refine g_top (y := X.1 16 ((9 + 6 * f_17) + 3)) (congrFun (rd_in (by decide) (rd_in (by decide) rfl)) _) ?_
            refine g_top (y := nI m3) em3 ?_
            refine g_callv (va_runV (As := [.int (nI m3)]) (rest := []) C.1 (cX8_writesNumber_ok l G (setRow (setRow X 15 w_334) 23 w_335) (0 + 1 + sb_dg m0 + 1 + sb_dg m2 + 1) (show 0 + 1 + sb_dg m0 + 1 + sb_dg m2 + 1 + 4 < 40 by omega) kn_337 m3 (show m3 < 10000 by omega)) (cwV 1 C.1.2.2.2.2 (gV qw_1867 qw_1869 qw_60 qw_81 qw_1870) rfl rfl rfl (by decide +kernel) ⟨Nat.le_of_ble_eq_true rfl, Nat.le_of_ble_eq_true rfl⟩) (g_rModel C hW_336 hS_333 [.int (nI m3)]) rfl rfl hl_318.1 rfl (lv_room (Nat.le_of_ble_eq_true rfl)) dX8_renderFurnace_73 ⟨Nat.zero_le _, Nat.zero_le _⟩) hS_333 (fun Y_339 H_340 locs_341 hW_342 hS_343 h_338 => ?_)
            replace h_338 : Y_339 = setRow (setRow (setRow (setRow X 15 w_334) 23 w_335) 15 (upd w_334 (8) (nI (0 + 1 + sb_dg m0 + 1 + sb_dg m2 + 1 + sb_dg m3)))) 23 (wnR w_335 (0 + 1 + sb_dg m0 + 1 + sb_dg m2 + 1) m3) := h_338
            obtain ⟨w_344, ew_344⟩ : ∃ Z9, Z9 = upd w_334 (8) (nI (0 + 1 + sb_dg m0 + 1 + sb_dg m2 + 1 + sb_dg m3)) := ⟨_, rfl⟩
            obtain ⟨w_345, ew_345⟩ : ∃ Z9, Z9 = wnR w_335 (0 + 1 + sb_dg m0 + 1 + sb_dg m2 + 1) m3 := ⟨_, rfl⟩
            have qqw_344 : Y_339 = setRow (setRow (setRow (setRow X 15 w_334) 23 w_335) 15 w_344) 23 w_345 := by rw [h_338, ew_344, ew_345]
            have hW_346 : Wd G (setRow (setRow X 15 w_344) 23 w_345) H_340 := Wd.cast (((qqw_344).trans (congrArg (fun Z9 => setRow (Z9) 23 w_345) (sr_in (by decide) sr_out))).trans (congrArg (fun Z9 => Z9) sr_out)) hW_342
            have kn_347 : w_344 (8) = nI (0 + 1 + sb_dg m0 + 1 + sb_dg m2 + 1 + sb_dg m3) := by rw [ew_344]; exact pk_us
            refine lv_iinc (v := 4) (lv' := [(3, .int 4), (2, .int (nI (9 + 6 * f_17))), (0, .ref (ad G 723)), (1, .int (nI f_17))]) hx hb dX8_renderFurnace_76 hl_318 (k := 0) rfl (by decide) (by decide) rfl (fun ls_348 hl_349 => ?_)
            refine lv_goto (tgt := 37) hx hb dX8_renderFurnace_79 (by decide) ?_
            refine lv_iload_n hx hb dX8_renderFurnace_37 rfl (lv_at hl_349 0 rfl) ?_
            refine lv_iconst (v := 4) hx hb dX8_renderFurnace_38 (by decide) ?_
            refine lv_icmp_ge (tgt := 82) hx hb dX8_renderFurnace_39 (by decide) (fun _ => ?_) (fun h9 => absurd h9 (by decide))
            refine lv_aload_n hx hb dX8_renderFurnace_82 rfl (lv_at hl_349 2 rfl) ?_
            refine lv_bipush (v := 64) hx hb dX8_renderFurnace_83 (by decide) ?_
            refine g_callv (va_runV (As := [.int 64]) (rest := []) C.1 (cX8_writes_ok l G (setRow (setRow X 15 w_344) 23 w_345) (0 + 1 + sb_dg m0 + 1 + sb_dg m2 + 1 + sb_dg m3) (show 0 + 1 + sb_dg m0 + 1 + sb_dg m2 + 1 + sb_dg m3 < 40 by omega) kn_347 64) (cwV 1 C.1.2.2.2.2 (gV qw_1863 qw_1865 qw_59 qw_81 qw_1866) rfl rfl rfl (by decide +kernel) ⟨Nat.le_of_ble_eq_true rfl, Nat.le_of_ble_eq_true rfl⟩) (g_rModel C hW_346 hS_343 [.int 64]) rfl rfl hl_349.1 rfl (lv_room (Nat.le_of_ble_eq_true rfl)) dX8_renderFurnace_85 ⟨Nat.zero_le _, Nat.zero_le _⟩) hS_343 (fun Y_351 H_352 locs_353 hW_354 hS_355 h_350 => ?_)
            replace h_350 : Y_351 = setRow (setRow (setRow (setRow X 15 w_344) 23 w_345) 15 (upd w_344 (8) (nI (0 + 1 + sb_dg m0 + 1 + sb_dg m2 + 1 + sb_dg m3 + 1)))) 23 (upd w_345 (0 + 1 + sb_dg m0 + 1 + sb_dg m2 + 1 + sb_dg m3) 64) := h_350
            obtain ⟨w_356, ew_356⟩ : ∃ Z9, Z9 = upd w_344 (8) (nI (0 + 1 + sb_dg m0 + 1 + sb_dg m2 + 1 + sb_dg m3 + 1)) := ⟨_, rfl⟩
            obtain ⟨w_357, ew_357⟩ : ∃ Z9, Z9 = upd w_345 (0 + 1 + sb_dg m0 + 1 + sb_dg m2 + 1 + sb_dg m3) 64 := ⟨_, rfl⟩
            have qqw_356 : Y_351 = setRow (setRow (setRow (setRow X 15 w_344) 23 w_345) 15 w_356) 23 w_357 := by rw [h_350, ew_356, ew_357]
            have hW_358 : Wd G (setRow (setRow X 15 w_356) 23 w_357) H_352 := Wd.cast (((qqw_356).trans (congrArg (fun Z9 => setRow (Z9) 23 w_357) (sr_in (by decide) sr_out))).trans (congrArg (fun Z9 => Z9) sr_out)) hW_354
            have kn_359 : w_356 (8) = nI (0 + 1 + sb_dg m0 + 1 + sb_dg m2 + 1 + sb_dg m3 + 1) := by rw [ew_356]; exact pk_us
            refine lv_aload_n hx hb dX8_renderFurnace_88 rfl (lv_at hl_349 2 rfl) ?_
            refine lv_aload_n hx hb dX8_renderFurnace_89 rfl (lv_at hl_349 2 rfl) ?_
            refine gM_v C hW_358 (hwc hwX8) (mc qw_1481) dX8_renderFurnace_90 ?_
            refine lv_iload_n hx hb dX8_renderFurnace_93 rfl (lv_at hl_349 1 rfl) ?_
            refine lv_iconst (v := 4) hx hb dX8_renderFurnace_94 (by decide) ?_
            refine lv_iadd hx hb dX8_renderFurnace_95 ?_
            refine g_top (y := nI ((9 + 6 * f_17) + 4)) (nI_add (9 + 6 * f_17) 4) ?_
            refine gm_vld C hW_358 ((9 + 6 * f_17) + 4) (nI_clamp (by omega)) (vp_in_nI (show (9 + 6 * f_17) + 4 < 128 by omega) (by decide)) dX8_renderFurnace_96 ?_
            refine g_top (y := X.1 16 ((9 + 6 * f_17) + 4)) (congrFun (rd_in (by decide) (rd_in (by decide) rfl)) _) ?_
            refine g_top (y := nI tt) em4 ?_
            refine g_callv (va_runV (As := [.int (nI tt)]) (rest := []) C.1 (cX8_writesNumber_ok l G (setRow (setRow X 15 w_356) 23 w_357) (0 + 1 + sb_dg m0 + 1 + sb_dg m2 + 1 + sb_dg m3 + 1) (show 0 + 1 + sb_dg m0 + 1 + sb_dg m2 + 1 + sb_dg m3 + 1 + 4 < 40 by omega) kn_359 tt (show tt < 10000 by omega)) (cwV 1 C.1.2.2.2.2 (gV qw_1867 qw_1869 qw_60 qw_81 qw_1870) rfl rfl rfl (by decide +kernel) ⟨Nat.le_of_ble_eq_true rfl, Nat.le_of_ble_eq_true rfl⟩) (g_rModel C hW_358 hS_355 [.int (nI tt)]) rfl rfl hl_349.1 rfl (lv_room (Nat.le_of_ble_eq_true rfl)) dX8_renderFurnace_97 ⟨Nat.zero_le _, Nat.zero_le _⟩) hS_355 (fun Y_361 H_362 locs_363 hW_364 hS_365 h_360 => ?_)
            replace h_360 : Y_361 = setRow (setRow (setRow (setRow X 15 w_356) 23 w_357) 15 (upd w_356 (8) (nI (0 + 1 + sb_dg m0 + 1 + sb_dg m2 + 1 + sb_dg m3 + 1 + sb_dg tt)))) 23 (wnR w_357 (0 + 1 + sb_dg m0 + 1 + sb_dg m2 + 1 + sb_dg m3 + 1) tt) := h_360
            obtain ⟨w_366, ew_366⟩ : ∃ Z9, Z9 = upd w_356 (8) (nI (0 + 1 + sb_dg m0 + 1 + sb_dg m2 + 1 + sb_dg m3 + 1 + sb_dg tt)) := ⟨_, rfl⟩
            obtain ⟨w_367, ew_367⟩ : ∃ Z9, Z9 = wnR w_357 (0 + 1 + sb_dg m0 + 1 + sb_dg m2 + 1 + sb_dg m3 + 1) tt := ⟨_, rfl⟩
            have qqw_366 : Y_361 = setRow (setRow (setRow (setRow X 15 w_356) 23 w_357) 15 w_366) 23 w_367 := by rw [h_360, ew_366, ew_367]
            have hW_368 : Wd G (setRow (setRow X 15 w_366) 23 w_367) H_362 := Wd.cast (((qqw_366).trans (congrArg (fun Z9 => setRow (Z9) 23 w_367) (sr_in (by decide) sr_out))).trans (congrArg (fun Z9 => Z9) sr_out)) hW_364
            have kn_369 : w_366 (8) = nI (0 + 1 + sb_dg m0 + 1 + sb_dg m2 + 1 + sb_dg m3 + 1 + sb_dg tt) := by rw [ew_366]; exact pk_us
            refine lv_aload_n hx hb dX8_renderFurnace_100 rfl (lv_at hl_349 2 rfl) ?_
            refine gM_lineN C hW_368 (hwc hwX8) (mc qw_1495) dX8_renderFurnace_101 ?_
            refine g_top (y := w_366 (8)) (congrFun (rd_in (by decide) rd_out) _) ?_
            refine g_top (y := nI (0 + 1 + sb_dg m0 + 1 + sb_dg m2 + 1 + sb_dg m3 + 1 + sb_dg tt)) kn_369 ?_
            exact g_iret C hr hlk hW_368 hS_365 dX8_renderFurnace_104 (by subst ew_367; subst ew_366; subst ew_357; subst ew_356; subst ew_345; subst ew_344; subst ew_335; subst ew_334; subst ew_314; subst ew_313; subst ew_304; subst ew_303; subst ew_71; subst ew_70; subst ew_61; subst ew_60; subst ew_39; subst ew_22; have e9 : rmS (X.1 16) (9 + 6 * f_17) (X.1 23) = (0 + 1 + sb_dg m0 + 1 + sb_dg m2 + 1 + sb_dg m3 + 1 + sb_dg tt, _) := (by simp only [rmS, rmM, show X.1 16 (9 + 6 * f_17) = nI m0 from em0, em1, em2, em3, em4, clf (show m0 < 2 ^ 31 by omega), clf (show m1 < 2 ^ 31 by omega), clf (show m2 < 2 ^ 31 by omega), clf (show m3 < 2 ^ 31 by omega), clf (show tt < 2 ^ 31 by omega), b_45, eq_true b_76, b_288, b_319, if_true, if_false, Nat.zero_add]; first | done | rfl); exact ⟨by simp only [oM_renderFurnace, b_9, if_false, clf (show f_17 < 2 ^ 31 by omega), e9]; first | done | rfl, by simp only [oM_renderFurnace, b_9, if_false, clf (show f_17 < 2 ^ 31 by omega), e9, uu8]; first | done | rfl⟩)
          · have fb_319 : m3 = 0 := (nI_eq (a := m3) (b := 0) (by omega) (by omega)).mp b_319
            refine lv_goto (tgt := 76) hx hb dX8_renderFurnace_53 (by decide) ?_
            refine lv_iinc (v := 4) (lv' := [(3, .int 4), (2, .int (nI (9 + 6 * f_17))), (0, .ref (ad G 723)), (1, .int (nI f_17))]) hx hb dX8_renderFurnace_76 hl_318 (k := 0) rfl (by decide) (by decide) rfl (fun ls_370 hl_371 => ?_)
            refine lv_goto (tgt := 37) hx hb dX8_renderFurnace_79 (by decide) ?_
            refine lv_iload_n hx hb dX8_renderFurnace_37 rfl (lv_at hl_371 0 rfl) ?_
            refine lv_iconst (v := 4) hx hb dX8_renderFurnace_38 (by decide) ?_
            refine lv_icmp_ge (tgt := 82) hx hb dX8_renderFurnace_39 (by decide) (fun _ => ?_) (fun h9 => absurd h9 (by decide))
            refine lv_aload_n hx hb dX8_renderFurnace_82 rfl (lv_at hl_371 2 rfl) ?_
            refine lv_bipush (v := 64) hx hb dX8_renderFurnace_83 (by decide) ?_
            refine g_callv (va_runV (As := [.int 64]) (rest := []) C.1 (cX8_writes_ok l G (setRow (setRow X 15 w_313) 23 w_314) (0 + 1 + sb_dg m0 + 1 + sb_dg m2) (show 0 + 1 + sb_dg m0 + 1 + sb_dg m2 < 40 by omega) kn_316 64) (cwV 1 C.1.2.2.2.2 (gV qw_1863 qw_1865 qw_59 qw_81 qw_1866) rfl rfl rfl (by decide +kernel) ⟨Nat.le_of_ble_eq_true rfl, Nat.le_of_ble_eq_true rfl⟩) (g_rModel C hW_315 hS_312 [.int 64]) rfl rfl hl_371.1 rfl (lv_room (Nat.le_of_ble_eq_true rfl)) dX8_renderFurnace_85 ⟨Nat.zero_le _, Nat.zero_le _⟩) hS_312 (fun Y_373 H_374 locs_375 hW_376 hS_377 h_372 => ?_)
            replace h_372 : Y_373 = setRow (setRow (setRow (setRow X 15 w_313) 23 w_314) 15 (upd w_313 (8) (nI (0 + 1 + sb_dg m0 + 1 + sb_dg m2 + 1)))) 23 (upd w_314 (0 + 1 + sb_dg m0 + 1 + sb_dg m2) 64) := h_372
            obtain ⟨w_378, ew_378⟩ : ∃ Z9, Z9 = upd w_313 (8) (nI (0 + 1 + sb_dg m0 + 1 + sb_dg m2 + 1)) := ⟨_, rfl⟩
            obtain ⟨w_379, ew_379⟩ : ∃ Z9, Z9 = upd w_314 (0 + 1 + sb_dg m0 + 1 + sb_dg m2) 64 := ⟨_, rfl⟩
            have qqw_378 : Y_373 = setRow (setRow (setRow (setRow X 15 w_313) 23 w_314) 15 w_378) 23 w_379 := by rw [h_372, ew_378, ew_379]
            have hW_380 : Wd G (setRow (setRow X 15 w_378) 23 w_379) H_374 := Wd.cast (((qqw_378).trans (congrArg (fun Z9 => setRow (Z9) 23 w_379) (sr_in (by decide) sr_out))).trans (congrArg (fun Z9 => Z9) sr_out)) hW_376
            have kn_381 : w_378 (8) = nI (0 + 1 + sb_dg m0 + 1 + sb_dg m2 + 1) := by rw [ew_378]; exact pk_us
            refine lv_aload_n hx hb dX8_renderFurnace_88 rfl (lv_at hl_371 2 rfl) ?_
            refine lv_aload_n hx hb dX8_renderFurnace_89 rfl (lv_at hl_371 2 rfl) ?_
            refine gM_v C hW_380 (hwc hwX8) (mc qw_1481) dX8_renderFurnace_90 ?_
            refine lv_iload_n hx hb dX8_renderFurnace_93 rfl (lv_at hl_371 1 rfl) ?_
            refine lv_iconst (v := 4) hx hb dX8_renderFurnace_94 (by decide) ?_
            refine lv_iadd hx hb dX8_renderFurnace_95 ?_
            refine g_top (y := nI ((9 + 6 * f_17) + 4)) (nI_add (9 + 6 * f_17) 4) ?_
            refine gm_vld C hW_380 ((9 + 6 * f_17) + 4) (nI_clamp (by omega)) (vp_in_nI (show (9 + 6 * f_17) + 4 < 128 by omega) (by decide)) dX8_renderFurnace_96 ?_
            refine g_top (y := X.1 16 ((9 + 6 * f_17) + 4)) (congrFun (rd_in (by decide) (rd_in (by decide) rfl)) _) ?_
            refine g_top (y := nI tt) em4 ?_
            refine g_callv (va_runV (As := [.int (nI tt)]) (rest := []) C.1 (cX8_writesNumber_ok l G (setRow (setRow X 15 w_378) 23 w_379) (0 + 1 + sb_dg m0 + 1 + sb_dg m2 + 1) (show 0 + 1 + sb_dg m0 + 1 + sb_dg m2 + 1 + 4 < 40 by omega) kn_381 tt (show tt < 10000 by omega)) (cwV 1 C.1.2.2.2.2 (gV qw_1867 qw_1869 qw_60 qw_81 qw_1870) rfl rfl rfl (by decide +kernel) ⟨Nat.le_of_ble_eq_true rfl, Nat.le_of_ble_eq_true rfl⟩) (g_rModel C hW_380 hS_377 [.int (nI tt)]) rfl rfl hl_371.1 rfl (lv_room (Nat.le_of_ble_eq_true rfl)) dX8_renderFurnace_97 ⟨Nat.zero_le _, Nat.zero_le _⟩) hS_377 (fun Y_383 H_384 locs_385 hW_386 hS_387 h_382 => ?_)
            replace h_382 : Y_383 = setRow (setRow (setRow (setRow X 15 w_378) 23 w_379) 15 (upd w_378 (8) (nI (0 + 1 + sb_dg m0 + 1 + sb_dg m2 + 1 + sb_dg tt)))) 23 (wnR w_379 (0 + 1 + sb_dg m0 + 1 + sb_dg m2 + 1) tt) := h_382
            obtain ⟨w_388, ew_388⟩ : ∃ Z9, Z9 = upd w_378 (8) (nI (0 + 1 + sb_dg m0 + 1 + sb_dg m2 + 1 + sb_dg tt)) := ⟨_, rfl⟩
            obtain ⟨w_389, ew_389⟩ : ∃ Z9, Z9 = wnR w_379 (0 + 1 + sb_dg m0 + 1 + sb_dg m2 + 1) tt := ⟨_, rfl⟩
            have qqw_388 : Y_383 = setRow (setRow (setRow (setRow X 15 w_378) 23 w_379) 15 w_388) 23 w_389 := by rw [h_382, ew_388, ew_389]
            have hW_390 : Wd G (setRow (setRow X 15 w_388) 23 w_389) H_384 := Wd.cast (((qqw_388).trans (congrArg (fun Z9 => setRow (Z9) 23 w_389) (sr_in (by decide) sr_out))).trans (congrArg (fun Z9 => Z9) sr_out)) hW_386
            have kn_391 : w_388 (8) = nI (0 + 1 + sb_dg m0 + 1 + sb_dg m2 + 1 + sb_dg tt) := by rw [ew_388]; exact pk_us
            refine lv_aload_n hx hb dX8_renderFurnace_100 rfl (lv_at hl_371 2 rfl) ?_
            refine gM_lineN C hW_390 (hwc hwX8) (mc qw_1495) dX8_renderFurnace_101 ?_
            refine g_top (y := w_388 (8)) (congrFun (rd_in (by decide) rd_out) _) ?_
            refine g_top (y := nI (0 + 1 + sb_dg m0 + 1 + sb_dg m2 + 1 + sb_dg tt)) kn_391 ?_
            exact g_iret C hr hlk hW_390 hS_387 dX8_renderFurnace_104 (by subst ew_389; subst ew_388; subst ew_379; subst ew_378; subst ew_314; subst ew_313; subst ew_304; subst ew_303; subst ew_71; subst ew_70; subst ew_61; subst ew_60; subst ew_39; subst ew_22; have e9 : rmS (X.1 16) (9 + 6 * f_17) (X.1 23) = (0 + 1 + sb_dg m0 + 1 + sb_dg m2 + 1 + sb_dg tt, _) := (by simp only [rmS, rmM, show X.1 16 (9 + 6 * f_17) = nI m0 from em0, em1, em2, em3, em4, clf (show m0 < 2 ^ 31 by omega), clf (show m1 < 2 ^ 31 by omega), clf (show m2 < 2 ^ 31 by omega), clf (show m3 < 2 ^ 31 by omega), clf (show tt < 2 ^ 31 by omega), b_45, eq_true b_76, b_288, eq_true b_319, if_true, if_false, Nat.zero_add]; first | done | rfl); exact ⟨by simp only [oM_renderFurnace, b_9, if_false, clf (show f_17 < 2 ^ 31 by omega), e9]; first | done | rfl, by simp only [oM_renderFurnace, b_9, if_false, clf (show f_17 < 2 ^ 31 by omega), e9, uu8]; first | done | rfl⟩)
        · have fb_288 : m2 = 0 := (nI_eq (a := m2) (b := 0) (by omega) (by omega)).mp b_288
          refine lv_goto (tgt := 76) hx hb dX8_renderFurnace_53 (by decide) ?_
          refine lv_iinc (v := 3) (lv' := [(3, .int 3), (2, .int (nI (9 + 6 * f_17))), (0, .ref (ad G 723)), (1, .int (nI f_17))]) hx hb dX8_renderFurnace_76 hl_287 (k := 0) rfl (by decide) (by decide) rfl (fun ls_392 hl_393 => ?_)
          refine lv_goto (tgt := 37) hx hb dX8_renderFurnace_79 (by decide) ?_
          refine lv_iload_n hx hb dX8_renderFurnace_37 rfl (lv_at hl_393 0 rfl) ?_
          refine lv_iconst (v := 4) hx hb dX8_renderFurnace_38 (by decide) ?_
          refine lv_icmp_ge (tgt := 82) hx hb dX8_renderFurnace_39 (by decide) (fun h9 => absurd h9 (by decide)) (fun _ => ?_)
          refine lv_aload_n hx hb dX8_renderFurnace_42 rfl (lv_at hl_393 2 rfl) ?_
          refine gM_v C hW_72 (hwc hwX8) (mc qw_1481) dX8_renderFurnace_43 ?_
          refine lv_iload_n hx hb dX8_renderFurnace_46 rfl (lv_at hl_393 1 rfl) ?_
          refine lv_iload_n hx hb dX8_renderFurnace_47 rfl (lv_at hl_393 0 rfl) ?_
          refine lv_iadd hx hb dX8_renderFurnace_48 ?_
          refine g_top (y := nI ((9 + 6 * f_17) + 3)) (nI_add (9 + 6 * f_17) 3) ?_
          refine gm_vld C hW_72 ((9 + 6 * f_17) + 3) (nI_clamp (by omega)) (vp_in_nI (show (9 + 6 * f_17) + 3 < 128 by omega) (by decide)) dX8_renderFurnace_49 ?_
          refine g_top (y := X.1 16 ((9 + 6 * f_17) + 3)) (congrFun (rd_in (by decide) (rd_in (by decide) rfl)) _) ?_
          refine g_top (y := nI m3) em3 ?_
          refine lv_if_ne (tgt := 56) hx hb dX8_renderFurnace_50 (by decide) (fun b_394 => ?_) (fun b_394 => ?_)
          · have fb_394 : ¬ m3 = 0 := fun q9 => b_394 ((nI_eq (a := m3) (b := 0) (by omega) (by omega)).mpr q9)
            refine lv_aload_n hx hb dX8_renderFurnace_56 rfl (lv_at hl_393 2 rfl) ?_
            refine lv_iload_n hx hb dX8_renderFurnace_57 rfl (lv_at hl_393 0 rfl) ?_
            refine g_calli (va_runS (As := [.int 3]) (rest := [.ref (ad G 723)]) C.1 (cX8_letter_ok l G (setRow (setRow X 15 w_70) 23 w_71) 3) (va_cwS 1 C.1.2.2.2.2 (gS qw_1860 qw_1861 qw_81 qw_1862) rfl rfl rfl (by decide +kernel) ⟨Nat.le_of_ble_eq_true rfl, Nat.le_of_ble_eq_true rfl⟩) (g_pre C hW_72 hS_69 [.int 3]) rfl rfl hl_393.1 rfl (lv_room (Nat.le_of_ble_eq_true rfl)) dX8_renderFurnace_58 ⟨Nat.zero_le _, Nat.zero_le _⟩) hS_69 (fun r_396 Y_397 H_398 locs_399 hW_400 hS_401 h_395 => ?_)
            obtain ⟨h_395, hy_402⟩ := h_395
            replace hy_402 := hy_402.symm
            subst hy_402
            replace h_395 : r_396 = oM_letter 3 := h_395
            subst h_395
            refine g_callv (va_runV (As := [.int (oM_letter 3)]) (rest := []) C.1 (cX8_writes_ok l G (setRow (setRow X 15 w_70) 23 w_71) (0 + 1 + sb_dg m0) (show 0 + 1 + sb_dg m0 < 40 by omega) kn_73 (oM_letter 3)) (cwV 1 C.1.2.2.2.2 (gV qw_1863 qw_1865 qw_59 qw_81 qw_1866) rfl rfl rfl (by decide +kernel) ⟨Nat.le_of_ble_eq_true rfl, Nat.le_of_ble_eq_true rfl⟩) (g_rModel C hW_400 hS_401 [.int (oM_letter 3)]) rfl rfl hl_393.1 rfl (lv_room (Nat.le_of_ble_eq_true rfl)) dX8_renderFurnace_61 ⟨Nat.zero_le _, Nat.zero_le _⟩) hS_401 (fun Y_404 H_405 locs_406 hW_407 hS_408 h_403 => ?_)
            replace h_403 : Y_404 = setRow (setRow (setRow (setRow X 15 w_70) 23 w_71) 15 (upd w_70 (8) (nI (0 + 1 + sb_dg m0 + 1)))) 23 (upd w_71 (0 + 1 + sb_dg m0) (oM_letter 3)) := h_403
            obtain ⟨w_409, ew_409⟩ : ∃ Z9, Z9 = upd w_70 (8) (nI (0 + 1 + sb_dg m0 + 1)) := ⟨_, rfl⟩
            obtain ⟨w_410, ew_410⟩ : ∃ Z9, Z9 = upd w_71 (0 + 1 + sb_dg m0) (oM_letter 3) := ⟨_, rfl⟩
            have qqw_409 : Y_404 = setRow (setRow (setRow (setRow X 15 w_70) 23 w_71) 15 w_409) 23 w_410 := by rw [h_403, ew_409, ew_410]
            have hW_411 : Wd G (setRow (setRow X 15 w_409) 23 w_410) H_405 := Wd.cast (((qqw_409).trans (congrArg (fun Z9 => setRow (Z9) 23 w_410) (sr_in (by decide) sr_out))).trans (congrArg (fun Z9 => Z9) sr_out)) hW_407
            have kn_412 : w_409 (8) = nI (0 + 1 + sb_dg m0 + 1) := by rw [ew_409]; exact pk_us
            refine lv_aload_n hx hb dX8_renderFurnace_64 rfl (lv_at hl_393 2 rfl) ?_
            refine lv_aload_n hx hb dX8_renderFurnace_65 rfl (lv_at hl_393 2 rfl) ?_
            refine gM_v C hW_411 (hwc hwX8) (mc qw_1481) dX8_renderFurnace_66 ?_
            refine lv_iload_n hx hb dX8_renderFurnace_69 rfl (lv_at hl_393 1 rfl) ?_
            refine lv_iload_n hx hb dX8_renderFurnace_70 rfl (lv_at hl_393 0 rfl) ?_
            refine lv_iadd hx hb dX8_renderFurnace_71 ?_
            refine g_top (y := nI ((9 + 6 * f_17) + 3)) (nI_add (9 + 6 * f_17) 3) ?_
            refine gm_vld C hW_411 ((9 + 6 * f_17) + 3) (nI_clamp (by omega)) (vp_in_nI (show (9 + 6 * f_17) + 3 < 128 by omega) (by decide)) dX8_renderFurnace_72 ?_
            refine g_top (y := X.1 16 ((9 + 6 * f_17) + 3)) (congrFun (rd_in (by decide) (rd_in (by decide) rfl)) _) ?_
            refine g_top (y := nI m3) em3 ?_
            refine g_callv (va_runV (As := [.int (nI m3)]) (rest := []) C.1 (cX8_writesNumber_ok l G (setRow (setRow X 15 w_409) 23 w_410) (0 + 1 + sb_dg m0 + 1) (show 0 + 1 + sb_dg m0 + 1 + 4 < 40 by omega) kn_412 m3 (show m3 < 10000 by omega)) (cwV 1 C.1.2.2.2.2 (gV qw_1867 qw_1869 qw_60 qw_81 qw_1870) rfl rfl rfl (by decide +kernel) ⟨Nat.le_of_ble_eq_true rfl, Nat.le_of_ble_eq_true rfl⟩) (g_rModel C hW_411 hS_408 [.int (nI m3)]) rfl rfl hl_393.1 rfl (lv_room (Nat.le_of_ble_eq_true rfl)) dX8_renderFurnace_73 ⟨Nat.zero_le _, Nat.zero_le _⟩) hS_408 (fun Y_414 H_415 locs_416 hW_417 hS_418 h_413 => ?_)
            replace h_413 : Y_414 = setRow (setRow (setRow (setRow X 15 w_409) 23 w_410) 15 (upd w_409 (8) (nI (0 + 1 + sb_dg m0 + 1 + sb_dg m3)))) 23 (wnR w_410 (0 + 1 + sb_dg m0 + 1) m3) := h_413
            obtain ⟨w_419, ew_419⟩ : ∃ Z9, Z9 = upd w_409 (8) (nI (0 + 1 + sb_dg m0 + 1 + sb_dg m3)) := ⟨_, rfl⟩
            obtain ⟨w_420, ew_420⟩ : ∃ Z9, Z9 = wnR w_410 (0 + 1 + sb_dg m0 + 1) m3 := ⟨_, rfl⟩
            have qqw_419 : Y_414 = setRow (setRow (setRow (setRow X 15 w_409) 23 w_410) 15 w_419) 23 w_420 := by rw [h_413, ew_419, ew_420]
            have hW_421 : Wd G (setRow (setRow X 15 w_419) 23 w_420) H_415 := Wd.cast (((qqw_419).trans (congrArg (fun Z9 => setRow (Z9) 23 w_420) (sr_in (by decide) sr_out))).trans (congrArg (fun Z9 => Z9) sr_out)) hW_417
            have kn_422 : w_419 (8) = nI (0 + 1 + sb_dg m0 + 1 + sb_dg m3) := by rw [ew_419]; exact pk_us
            refine lv_iinc (v := 4) (lv' := [(3, .int 4), (2, .int (nI (9 + 6 * f_17))), (0, .ref (ad G 723)), (1, .int (nI f_17))]) hx hb dX8_renderFurnace_76 hl_393 (k := 0) rfl (by decide) (by decide) rfl (fun ls_423 hl_424 => ?_)
            refine lv_goto (tgt := 37) hx hb dX8_renderFurnace_79 (by decide) ?_
            refine lv_iload_n hx hb dX8_renderFurnace_37 rfl (lv_at hl_424 0 rfl) ?_
            refine lv_iconst (v := 4) hx hb dX8_renderFurnace_38 (by decide) ?_
            refine lv_icmp_ge (tgt := 82) hx hb dX8_renderFurnace_39 (by decide) (fun _ => ?_) (fun h9 => absurd h9 (by decide))
            refine lv_aload_n hx hb dX8_renderFurnace_82 rfl (lv_at hl_424 2 rfl) ?_
            refine lv_bipush (v := 64) hx hb dX8_renderFurnace_83 (by decide) ?_
            refine g_callv (va_runV (As := [.int 64]) (rest := []) C.1 (cX8_writes_ok l G (setRow (setRow X 15 w_419) 23 w_420) (0 + 1 + sb_dg m0 + 1 + sb_dg m3) (show 0 + 1 + sb_dg m0 + 1 + sb_dg m3 < 40 by omega) kn_422 64) (cwV 1 C.1.2.2.2.2 (gV qw_1863 qw_1865 qw_59 qw_81 qw_1866) rfl rfl rfl (by decide +kernel) ⟨Nat.le_of_ble_eq_true rfl, Nat.le_of_ble_eq_true rfl⟩) (g_rModel C hW_421 hS_418 [.int 64]) rfl rfl hl_424.1 rfl (lv_room (Nat.le_of_ble_eq_true rfl)) dX8_renderFurnace_85 ⟨Nat.zero_le _, Nat.zero_le _⟩) hS_418 (fun Y_426 H_427 locs_428 hW_429 hS_430 h_425 => ?_)
            replace h_425 : Y_426 = setRow (setRow (setRow (setRow X 15 w_419) 23 w_420) 15 (upd w_419 (8) (nI (0 + 1 + sb_dg m0 + 1 + sb_dg m3 + 1)))) 23 (upd w_420 (0 + 1 + sb_dg m0 + 1 + sb_dg m3) 64) := h_425
            obtain ⟨w_431, ew_431⟩ : ∃ Z9, Z9 = upd w_419 (8) (nI (0 + 1 + sb_dg m0 + 1 + sb_dg m3 + 1)) := ⟨_, rfl⟩
            obtain ⟨w_432, ew_432⟩ : ∃ Z9, Z9 = upd w_420 (0 + 1 + sb_dg m0 + 1 + sb_dg m3) 64 := ⟨_, rfl⟩
            have qqw_431 : Y_426 = setRow (setRow (setRow (setRow X 15 w_419) 23 w_420) 15 w_431) 23 w_432 := by rw [h_425, ew_431, ew_432]
            have hW_433 : Wd G (setRow (setRow X 15 w_431) 23 w_432) H_427 := Wd.cast (((qqw_431).trans (congrArg (fun Z9 => setRow (Z9) 23 w_432) (sr_in (by decide) sr_out))).trans (congrArg (fun Z9 => Z9) sr_out)) hW_429
            have kn_434 : w_431 (8) = nI (0 + 1 + sb_dg m0 + 1 + sb_dg m3 + 1) := by rw [ew_431]; exact pk_us
            refine lv_aload_n hx hb dX8_renderFurnace_88 rfl (lv_at hl_424 2 rfl) ?_
            refine lv_aload_n hx hb dX8_renderFurnace_89 rfl (lv_at hl_424 2 rfl) ?_
            refine gM_v C hW_433 (hwc hwX8) (mc qw_1481) dX8_renderFurnace_90 ?_
            refine lv_iload_n hx hb dX8_renderFurnace_93 rfl (lv_at hl_424 1 rfl) ?_
            refine lv_iconst (v := 4) hx hb dX8_renderFurnace_94 (by decide) ?_
            refine lv_iadd hx hb dX8_renderFurnace_95 ?_
            refine g_top (y := nI ((9 + 6 * f_17) + 4)) (nI_add (9 + 6 * f_17) 4) ?_
            refine gm_vld C hW_433 ((9 + 6 * f_17) + 4) (nI_clamp (by omega)) (vp_in_nI (show (9 + 6 * f_17) + 4 < 128 by omega) (by decide)) dX8_renderFurnace_96 ?_
            refine g_top (y := X.1 16 ((9 + 6 * f_17) + 4)) (congrFun (rd_in (by decide) (rd_in (by decide) rfl)) _) ?_
            refine g_top (y := nI tt) em4 ?_
            refine g_callv (va_runV (As := [.int (nI tt)]) (rest := []) C.1 (cX8_writesNumber_ok l G (setRow (setRow X 15 w_431) 23 w_432) (0 + 1 + sb_dg m0 + 1 + sb_dg m3 + 1) (show 0 + 1 + sb_dg m0 + 1 + sb_dg m3 + 1 + 4 < 40 by omega) kn_434 tt (show tt < 10000 by omega)) (cwV 1 C.1.2.2.2.2 (gV qw_1867 qw_1869 qw_60 qw_81 qw_1870) rfl rfl rfl (by decide +kernel) ⟨Nat.le_of_ble_eq_true rfl, Nat.le_of_ble_eq_true rfl⟩) (g_rModel C hW_433 hS_430 [.int (nI tt)]) rfl rfl hl_424.1 rfl (lv_room (Nat.le_of_ble_eq_true rfl)) dX8_renderFurnace_97 ⟨Nat.zero_le _, Nat.zero_le _⟩) hS_430 (fun Y_436 H_437 locs_438 hW_439 hS_440 h_435 => ?_)
            replace h_435 : Y_436 = setRow (setRow (setRow (setRow X 15 w_431) 23 w_432) 15 (upd w_431 (8) (nI (0 + 1 + sb_dg m0 + 1 + sb_dg m3 + 1 + sb_dg tt)))) 23 (wnR w_432 (0 + 1 + sb_dg m0 + 1 + sb_dg m3 + 1) tt) := h_435
            obtain ⟨w_441, ew_441⟩ : ∃ Z9, Z9 = upd w_431 (8) (nI (0 + 1 + sb_dg m0 + 1 + sb_dg m3 + 1 + sb_dg tt)) := ⟨_, rfl⟩
            obtain ⟨w_442, ew_442⟩ : ∃ Z9, Z9 = wnR w_432 (0 + 1 + sb_dg m0 + 1 + sb_dg m3 + 1) tt := ⟨_, rfl⟩
            have qqw_441 : Y_436 = setRow (setRow (setRow (setRow X 15 w_431) 23 w_432) 15 w_441) 23 w_442 := by rw [h_435, ew_441, ew_442]
            have hW_443 : Wd G (setRow (setRow X 15 w_441) 23 w_442) H_437 := Wd.cast (((qqw_441).trans (congrArg (fun Z9 => setRow (Z9) 23 w_442) (sr_in (by decide) sr_out))).trans (congrArg (fun Z9 => Z9) sr_out)) hW_439
            have kn_444 : w_441 (8) = nI (0 + 1 + sb_dg m0 + 1 + sb_dg m3 + 1 + sb_dg tt) := by rw [ew_441]; exact pk_us
            refine lv_aload_n hx hb dX8_renderFurnace_100 rfl (lv_at hl_424 2 rfl) ?_
            refine gM_lineN C hW_443 (hwc hwX8) (mc qw_1495) dX8_renderFurnace_101 ?_
            refine g_top (y := w_441 (8)) (congrFun (rd_in (by decide) rd_out) _) ?_
            refine g_top (y := nI (0 + 1 + sb_dg m0 + 1 + sb_dg m3 + 1 + sb_dg tt)) kn_444 ?_
            exact g_iret C hr hlk hW_443 hS_440 dX8_renderFurnace_104 (by subst ew_442; subst ew_441; subst ew_432; subst ew_431; subst ew_420; subst ew_419; subst ew_410; subst ew_409; subst ew_71; subst ew_70; subst ew_61; subst ew_60; subst ew_39; subst ew_22; have e9 : rmS (X.1 16) (9 + 6 * f_17) (X.1 23) = (0 + 1 + sb_dg m0 + 1 + sb_dg m3 + 1 + sb_dg tt, _) := (by simp only [rmS, rmM, show X.1 16 (9 + 6 * f_17) = nI m0 from em0, em1, em2, em3, em4, clf (show m0 < 2 ^ 31 by omega), clf (show m1 < 2 ^ 31 by omega), clf (show m2 < 2 ^ 31 by omega), clf (show m3 < 2 ^ 31 by omega), clf (show tt < 2 ^ 31 by omega), b_45, eq_true b_76, eq_true b_288, b_394, if_true, if_false, Nat.zero_add]; first | done | rfl); exact ⟨by simp only [oM_renderFurnace, b_9, if_false, clf (show f_17 < 2 ^ 31 by omega), e9]; first | done | rfl, by simp only [oM_renderFurnace, b_9, if_false, clf (show f_17 < 2 ^ 31 by omega), e9, uu8]; first | done | rfl⟩)
          · have fb_394 : m3 = 0 := (nI_eq (a := m3) (b := 0) (by omega) (by omega)).mp b_394
            refine lv_goto (tgt := 76) hx hb dX8_renderFurnace_53 (by decide) ?_
            refine lv_iinc (v := 4) (lv' := [(3, .int 4), (2, .int (nI (9 + 6 * f_17))), (0, .ref (ad G 723)), (1, .int (nI f_17))]) hx hb dX8_renderFurnace_76 hl_393 (k := 0) rfl (by decide) (by decide) rfl (fun ls_445 hl_446 => ?_)
            refine lv_goto (tgt := 37) hx hb dX8_renderFurnace_79 (by decide) ?_
            refine lv_iload_n hx hb dX8_renderFurnace_37 rfl (lv_at hl_446 0 rfl) ?_
            refine lv_iconst (v := 4) hx hb dX8_renderFurnace_38 (by decide) ?_
            refine lv_icmp_ge (tgt := 82) hx hb dX8_renderFurnace_39 (by decide) (fun _ => ?_) (fun h9 => absurd h9 (by decide))
            refine lv_aload_n hx hb dX8_renderFurnace_82 rfl (lv_at hl_446 2 rfl) ?_
            refine lv_bipush (v := 64) hx hb dX8_renderFurnace_83 (by decide) ?_
            refine g_callv (va_runV (As := [.int 64]) (rest := []) C.1 (cX8_writes_ok l G (setRow (setRow X 15 w_70) 23 w_71) (0 + 1 + sb_dg m0) (show 0 + 1 + sb_dg m0 < 40 by omega) kn_73 64) (cwV 1 C.1.2.2.2.2 (gV qw_1863 qw_1865 qw_59 qw_81 qw_1866) rfl rfl rfl (by decide +kernel) ⟨Nat.le_of_ble_eq_true rfl, Nat.le_of_ble_eq_true rfl⟩) (g_rModel C hW_72 hS_69 [.int 64]) rfl rfl hl_446.1 rfl (lv_room (Nat.le_of_ble_eq_true rfl)) dX8_renderFurnace_85 ⟨Nat.zero_le _, Nat.zero_le _⟩) hS_69 (fun Y_448 H_449 locs_450 hW_451 hS_452 h_447 => ?_)
            replace h_447 : Y_448 = setRow (setRow (setRow (setRow X 15 w_70) 23 w_71) 15 (upd w_70 (8) (nI (0 + 1 + sb_dg m0 + 1)))) 23 (upd w_71 (0 + 1 + sb_dg m0) 64) := h_447
            obtain ⟨w_453, ew_453⟩ : ∃ Z9, Z9 = upd w_70 (8) (nI (0 + 1 + sb_dg m0 + 1)) := ⟨_, rfl⟩
            obtain ⟨w_454, ew_454⟩ : ∃ Z9, Z9 = upd w_71 (0 + 1 + sb_dg m0) 64 := ⟨_, rfl⟩
            have qqw_453 : Y_448 = setRow (setRow (setRow (setRow X 15 w_70) 23 w_71) 15 w_453) 23 w_454 := by rw [h_447, ew_453, ew_454]
            have hW_455 : Wd G (setRow (setRow X 15 w_453) 23 w_454) H_449 := Wd.cast (((qqw_453).trans (congrArg (fun Z9 => setRow (Z9) 23 w_454) (sr_in (by decide) sr_out))).trans (congrArg (fun Z9 => Z9) sr_out)) hW_451
            have kn_456 : w_453 (8) = nI (0 + 1 + sb_dg m0 + 1) := by rw [ew_453]; exact pk_us
            refine lv_aload_n hx hb dX8_renderFurnace_88 rfl (lv_at hl_446 2 rfl) ?_
            refine lv_aload_n hx hb dX8_renderFurnace_89 rfl (lv_at hl_446 2 rfl) ?_
            refine gM_v C hW_455 (hwc hwX8) (mc qw_1481) dX8_renderFurnace_90 ?_
            refine lv_iload_n hx hb dX8_renderFurnace_93 rfl (lv_at hl_446 1 rfl) ?_
            refine lv_iconst (v := 4) hx hb dX8_renderFurnace_94 (by decide) ?_
            refine lv_iadd hx hb dX8_renderFurnace_95 ?_
            refine g_top (y := nI ((9 + 6 * f_17) + 4)) (nI_add (9 + 6 * f_17) 4) ?_
            refine gm_vld C hW_455 ((9 + 6 * f_17) + 4) (nI_clamp (by omega)) (vp_in_nI (show (9 + 6 * f_17) + 4 < 128 by omega) (by decide)) dX8_renderFurnace_96 ?_
            refine g_top (y := X.1 16 ((9 + 6 * f_17) + 4)) (congrFun (rd_in (by decide) (rd_in (by decide) rfl)) _) ?_
            refine g_top (y := nI tt) em4 ?_
            refine g_callv (va_runV (As := [.int (nI tt)]) (rest := []) C.1 (cX8_writesNumber_ok l G (setRow (setRow X 15 w_453) 23 w_454) (0 + 1 + sb_dg m0 + 1) (show 0 + 1 + sb_dg m0 + 1 + 4 < 40 by omega) kn_456 tt (show tt < 10000 by omega)) (cwV 1 C.1.2.2.2.2 (gV qw_1867 qw_1869 qw_60 qw_81 qw_1870) rfl rfl rfl (by decide +kernel) ⟨Nat.le_of_ble_eq_true rfl, Nat.le_of_ble_eq_true rfl⟩) (g_rModel C hW_455 hS_452 [.int (nI tt)]) rfl rfl hl_446.1 rfl (lv_room (Nat.le_of_ble_eq_true rfl)) dX8_renderFurnace_97 ⟨Nat.zero_le _, Nat.zero_le _⟩) hS_452 (fun Y_458 H_459 locs_460 hW_461 hS_462 h_457 => ?_)
            replace h_457 : Y_458 = setRow (setRow (setRow (setRow X 15 w_453) 23 w_454) 15 (upd w_453 (8) (nI (0 + 1 + sb_dg m0 + 1 + sb_dg tt)))) 23 (wnR w_454 (0 + 1 + sb_dg m0 + 1) tt) := h_457
            obtain ⟨w_463, ew_463⟩ : ∃ Z9, Z9 = upd w_453 (8) (nI (0 + 1 + sb_dg m0 + 1 + sb_dg tt)) := ⟨_, rfl⟩
            obtain ⟨w_464, ew_464⟩ : ∃ Z9, Z9 = wnR w_454 (0 + 1 + sb_dg m0 + 1) tt := ⟨_, rfl⟩
            have qqw_463 : Y_458 = setRow (setRow (setRow (setRow X 15 w_453) 23 w_454) 15 w_463) 23 w_464 := by rw [h_457, ew_463, ew_464]
            have hW_465 : Wd G (setRow (setRow X 15 w_463) 23 w_464) H_459 := Wd.cast (((qqw_463).trans (congrArg (fun Z9 => setRow (Z9) 23 w_464) (sr_in (by decide) sr_out))).trans (congrArg (fun Z9 => Z9) sr_out)) hW_461
            have kn_466 : w_463 (8) = nI (0 + 1 + sb_dg m0 + 1 + sb_dg tt) := by rw [ew_463]; exact pk_us
            refine lv_aload_n hx hb dX8_renderFurnace_100 rfl (lv_at hl_446 2 rfl) ?_
            refine gM_lineN C hW_465 (hwc hwX8) (mc qw_1495) dX8_renderFurnace_101 ?_
            refine g_top (y := w_463 (8)) (congrFun (rd_in (by decide) rd_out) _) ?_
            refine g_top (y := nI (0 + 1 + sb_dg m0 + 1 + sb_dg tt)) kn_466 ?_
            exact g_iret C hr hlk hW_465 hS_462 dX8_renderFurnace_104 (by subst ew_464; subst ew_463; subst ew_454; subst ew_453; subst ew_71; subst ew_70; subst ew_61; subst ew_60; subst ew_39; subst ew_22; have e9 : rmS (X.1 16) (9 + 6 * f_17) (X.1 23) = (0 + 1 + sb_dg m0 + 1 + sb_dg tt, _) := (by simp only [rmS, rmM, show X.1 16 (9 + 6 * f_17) = nI m0 from em0, em1, em2, em3, em4, clf (show m0 < 2 ^ 31 by omega), clf (show m1 < 2 ^ 31 by omega), clf (show m2 < 2 ^ 31 by omega), clf (show m3 < 2 ^ 31 by omega), clf (show tt < 2 ^ 31 by omega), b_45, eq_true b_76, eq_true b_288, eq_true b_394, if_true, if_false, Nat.zero_add]; first | done | rfl); exact ⟨by simp only [oM_renderFurnace, b_9, if_false, clf (show f_17 < 2 ^ 31 by omega), e9]; first | done | rfl, by simp only [oM_renderFurnace, b_9, if_false, clf (show f_17 < 2 ^ 31 by omega), e9, uu8]; first | done | rfl⟩)
    · have fb_45 : m0 = 0 := (nI_eq (a := m0) (b := 0) (by omega) (by omega)).mp b_45
      refine lv_goto (tgt := 76) hx hb dX8_renderFurnace_53 (by decide) ?_
      refine lv_iinc (v := 1) (lv' := [(3, .int 1), (2, .int (nI (9 + 6 * f_17))), (0, .ref (ad G 723)), (1, .int (nI f_17))]) hx hb dX8_renderFurnace_76 hl_44 (k := 0) rfl (by decide) (by decide) rfl (fun ls_467 hl_468 => ?_)
      refine lv_goto (tgt := 37) hx hb dX8_renderFurnace_79 (by decide) ?_
      refine lv_iload_n hx hb dX8_renderFurnace_37 rfl (lv_at hl_468 0 rfl) ?_
      refine lv_iconst (v := 4) hx hb dX8_renderFurnace_38 (by decide) ?_
      refine lv_icmp_ge (tgt := 82) hx hb dX8_renderFurnace_39 (by decide) (fun h9 => absurd h9 (by decide)) (fun _ => ?_)
      refine lv_aload_n hx hb dX8_renderFurnace_42 rfl (lv_at hl_468 2 rfl) ?_
      refine gM_v C hW_42 (hwc hwX8) (mc qw_1481) dX8_renderFurnace_43 ?_
      refine lv_iload_n hx hb dX8_renderFurnace_46 rfl (lv_at hl_468 1 rfl) ?_
      refine lv_iload_n hx hb dX8_renderFurnace_47 rfl (lv_at hl_468 0 rfl) ?_
      refine lv_iadd hx hb dX8_renderFurnace_48 ?_
      refine g_top (y := nI ((9 + 6 * f_17) + 1)) (nI_add (9 + 6 * f_17) 1) ?_
      refine gm_vld C hW_42 ((9 + 6 * f_17) + 1) (nI_clamp (by omega)) (vp_in_nI (show (9 + 6 * f_17) + 1 < 128 by omega) (by decide)) dX8_renderFurnace_49 ?_
      refine g_top (y := X.1 16 ((9 + 6 * f_17) + 1)) (congrFun (rd_in (by decide) (rd_in (by decide) rfl)) _) ?_
      refine g_top (y := nI m1) em1 ?_
      refine lv_if_ne (tgt := 56) hx hb dX8_renderFurnace_50 (by decide) (fun b_469 => ?_) (fun b_469 => ?_)
      · have fb_469 : ¬ m1 = 0 := fun q9 => b_469 ((nI_eq (a := m1) (b := 0) (by omega) (by omega)).mpr q9)
        refine lv_aload_n hx hb dX8_renderFurnace_56 rfl (lv_at hl_468 2 rfl) ?_
        refine lv_iload_n hx hb dX8_renderFurnace_57 rfl (lv_at hl_468 0 rfl) ?_
        refine g_calli (va_runS (As := [.int 1]) (rest := [.ref (ad G 723)]) C.1 (cX8_letter_ok l G (setRow (setRow X 15 w_39) 23 (X.1 23)) 1) (va_cwS 1 C.1.2.2.2.2 (gS qw_1860 qw_1861 qw_81 qw_1862) rfl rfl rfl (by decide +kernel) ⟨Nat.le_of_ble_eq_true rfl, Nat.le_of_ble_eq_true rfl⟩) (g_pre C hW_42 hS_38 [.int 1]) rfl rfl hl_468.1 rfl (lv_room (Nat.le_of_ble_eq_true rfl)) dX8_renderFurnace_58 ⟨Nat.zero_le _, Nat.zero_le _⟩) hS_38 (fun r_471 Y_472 H_473 locs_474 hW_475 hS_476 h_470 => ?_)
        obtain ⟨h_470, hy_477⟩ := h_470
        replace hy_477 := hy_477.symm
        subst hy_477
        replace h_470 : r_471 = oM_letter 1 := h_470
        subst h_470
        refine g_callv (va_runV (As := [.int (oM_letter 1)]) (rest := []) C.1 (cX8_writes_ok l G (setRow (setRow X 15 w_39) 23 (X.1 23)) 0 (show 0 < 40 by omega) kn_41 (oM_letter 1)) (cwV 1 C.1.2.2.2.2 (gV qw_1863 qw_1865 qw_59 qw_81 qw_1866) rfl rfl rfl (by decide +kernel) ⟨Nat.le_of_ble_eq_true rfl, Nat.le_of_ble_eq_true rfl⟩) (g_rModel C hW_475 hS_476 [.int (oM_letter 1)]) rfl rfl hl_468.1 rfl (lv_room (Nat.le_of_ble_eq_true rfl)) dX8_renderFurnace_61 ⟨Nat.zero_le _, Nat.zero_le _⟩) hS_476 (fun Y_479 H_480 locs_481 hW_482 hS_483 h_478 => ?_)
        replace h_478 : Y_479 = setRow (setRow (setRow (setRow X 15 w_39) 23 (X.1 23)) 15 (upd w_39 (8) (nI (0 + 1)))) 23 (upd (X.1 23) (0) (oM_letter 1)) := h_478
        obtain ⟨w_484, ew_484⟩ : ∃ Z9, Z9 = upd w_39 (8) (nI (0 + 1)) := ⟨_, rfl⟩
        obtain ⟨w_485, ew_485⟩ : ∃ Z9, Z9 = upd (X.1 23) (0) (oM_letter 1) := ⟨_, rfl⟩
        have qqw_484 : Y_479 = setRow (setRow (setRow (setRow X 15 w_39) 23 (X.1 23)) 15 w_484) 23 w_485 := by rw [h_478, ew_484, ew_485]
        have hW_486 : Wd G (setRow (setRow X 15 w_484) 23 w_485) H_480 := Wd.cast (((qqw_484).trans (congrArg (fun Z9 => setRow (Z9) 23 w_485) (sr_in (by decide) sr_out))).trans (congrArg (fun Z9 => Z9) sr_out)) hW_482
        have kn_487 : w_484 (8) = nI (0 + 1) := by rw [ew_484]; exact pk_us
        refine lv_aload_n hx hb dX8_renderFurnace_64 rfl (lv_at hl_468 2 rfl) ?_
        refine lv_aload_n hx hb dX8_renderFurnace_65 rfl (lv_at hl_468 2 rfl) ?_
        refine gM_v C hW_486 (hwc hwX8) (mc qw_1481) dX8_renderFurnace_66 ?_
        refine lv_iload_n hx hb dX8_renderFurnace_69 rfl (lv_at hl_468 1 rfl) ?_
        refine lv_iload_n hx hb dX8_renderFurnace_70 rfl (lv_at hl_468 0 rfl) ?_
        refine lv_iadd hx hb dX8_renderFurnace_71 ?_
        refine g_top (y := nI ((9 + 6 * f_17) + 1)) (nI_add (9 + 6 * f_17) 1) ?_
        refine gm_vld C hW_486 ((9 + 6 * f_17) + 1) (nI_clamp (by omega)) (vp_in_nI (show (9 + 6 * f_17) + 1 < 128 by omega) (by decide)) dX8_renderFurnace_72 ?_
        refine g_top (y := X.1 16 ((9 + 6 * f_17) + 1)) (congrFun (rd_in (by decide) (rd_in (by decide) rfl)) _) ?_
        refine g_top (y := nI m1) em1 ?_
        refine g_callv (va_runV (As := [.int (nI m1)]) (rest := []) C.1 (cX8_writesNumber_ok l G (setRow (setRow X 15 w_484) 23 w_485) (0 + 1) (show 0 + 1 + 4 < 40 by omega) kn_487 m1 (show m1 < 10000 by omega)) (cwV 1 C.1.2.2.2.2 (gV qw_1867 qw_1869 qw_60 qw_81 qw_1870) rfl rfl rfl (by decide +kernel) ⟨Nat.le_of_ble_eq_true rfl, Nat.le_of_ble_eq_true rfl⟩) (g_rModel C hW_486 hS_483 [.int (nI m1)]) rfl rfl hl_468.1 rfl (lv_room (Nat.le_of_ble_eq_true rfl)) dX8_renderFurnace_73 ⟨Nat.zero_le _, Nat.zero_le _⟩) hS_483 (fun Y_489 H_490 locs_491 hW_492 hS_493 h_488 => ?_)
        replace h_488 : Y_489 = setRow (setRow (setRow (setRow X 15 w_484) 23 w_485) 15 (upd w_484 (8) (nI (0 + 1 + sb_dg m1)))) 23 (wnR w_485 (0 + 1) m1) := h_488
        obtain ⟨w_494, ew_494⟩ : ∃ Z9, Z9 = upd w_484 (8) (nI (0 + 1 + sb_dg m1)) := ⟨_, rfl⟩
        obtain ⟨w_495, ew_495⟩ : ∃ Z9, Z9 = wnR w_485 (0 + 1) m1 := ⟨_, rfl⟩
        have qqw_494 : Y_489 = setRow (setRow (setRow (setRow X 15 w_484) 23 w_485) 15 w_494) 23 w_495 := by rw [h_488, ew_494, ew_495]
        have hW_496 : Wd G (setRow (setRow X 15 w_494) 23 w_495) H_490 := Wd.cast (((qqw_494).trans (congrArg (fun Z9 => setRow (Z9) 23 w_495) (sr_in (by decide) sr_out))).trans (congrArg (fun Z9 => Z9) sr_out)) hW_492
        have kn_497 : w_494 (8) = nI (0 + 1 + sb_dg m1) := by rw [ew_494]; exact pk_us
        refine lv_iinc (v := 2) (lv' := [(3, .int 2), (2, .int (nI (9 + 6 * f_17))), (0, .ref (ad G 723)), (1, .int (nI f_17))]) hx hb dX8_renderFurnace_76 hl_468 (k := 0) rfl (by decide) (by decide) rfl (fun ls_498 hl_499 => ?_)
        refine lv_goto (tgt := 37) hx hb dX8_renderFurnace_79 (by decide) ?_
        refine lv_iload_n hx hb dX8_renderFurnace_37 rfl (lv_at hl_499 0 rfl) ?_
        refine lv_iconst (v := 4) hx hb dX8_renderFurnace_38 (by decide) ?_
        refine lv_icmp_ge (tgt := 82) hx hb dX8_renderFurnace_39 (by decide) (fun h9 => absurd h9 (by decide)) (fun _ => ?_)
        refine lv_aload_n hx hb dX8_renderFurnace_42 rfl (lv_at hl_499 2 rfl) ?_
        refine gM_v C hW_496 (hwc hwX8) (mc qw_1481) dX8_renderFurnace_43 ?_
        refine lv_iload_n hx hb dX8_renderFurnace_46 rfl (lv_at hl_499 1 rfl) ?_
        refine lv_iload_n hx hb dX8_renderFurnace_47 rfl (lv_at hl_499 0 rfl) ?_
        refine lv_iadd hx hb dX8_renderFurnace_48 ?_
        refine g_top (y := nI ((9 + 6 * f_17) + 2)) (nI_add (9 + 6 * f_17) 2) ?_
        refine gm_vld C hW_496 ((9 + 6 * f_17) + 2) (nI_clamp (by omega)) (vp_in_nI (show (9 + 6 * f_17) + 2 < 128 by omega) (by decide)) dX8_renderFurnace_49 ?_
        refine g_top (y := X.1 16 ((9 + 6 * f_17) + 2)) (congrFun (rd_in (by decide) (rd_in (by decide) rfl)) _) ?_
        refine g_top (y := nI m2) em2 ?_
        refine lv_if_ne (tgt := 56) hx hb dX8_renderFurnace_50 (by decide) (fun b_500 => ?_) (fun b_500 => ?_)
        · have fb_500 : ¬ m2 = 0 := fun q9 => b_500 ((nI_eq (a := m2) (b := 0) (by omega) (by omega)).mpr q9)
          refine lv_aload_n hx hb dX8_renderFurnace_56 rfl (lv_at hl_499 2 rfl) ?_
          refine lv_iload_n hx hb dX8_renderFurnace_57 rfl (lv_at hl_499 0 rfl) ?_
          refine g_calli (va_runS (As := [.int 2]) (rest := [.ref (ad G 723)]) C.1 (cX8_letter_ok l G (setRow (setRow X 15 w_494) 23 w_495) 2) (va_cwS 1 C.1.2.2.2.2 (gS qw_1860 qw_1861 qw_81 qw_1862) rfl rfl rfl (by decide +kernel) ⟨Nat.le_of_ble_eq_true rfl, Nat.le_of_ble_eq_true rfl⟩) (g_pre C hW_496 hS_493 [.int 2]) rfl rfl hl_499.1 rfl (lv_room (Nat.le_of_ble_eq_true rfl)) dX8_renderFurnace_58 ⟨Nat.zero_le _, Nat.zero_le _⟩) hS_493 (fun r_502 Y_503 H_504 locs_505 hW_506 hS_507 h_501 => ?_)
          obtain ⟨h_501, hy_508⟩ := h_501
          replace hy_508 := hy_508.symm
          subst hy_508
          replace h_501 : r_502 = oM_letter 2 := h_501
          subst h_501
          refine g_callv (va_runV (As := [.int (oM_letter 2)]) (rest := []) C.1 (cX8_writes_ok l G (setRow (setRow X 15 w_494) 23 w_495) (0 + 1 + sb_dg m1) (show 0 + 1 + sb_dg m1 < 40 by omega) kn_497 (oM_letter 2)) (cwV 1 C.1.2.2.2.2 (gV qw_1863 qw_1865 qw_59 qw_81 qw_1866) rfl rfl rfl (by decide +kernel) ⟨Nat.le_of_ble_eq_true rfl, Nat.le_of_ble_eq_true rfl⟩) (g_rModel C hW_506 hS_507 [.int (oM_letter 2)]) rfl rfl hl_499.1 rfl (lv_room (Nat.le_of_ble_eq_true rfl)) dX8_renderFurnace_61 ⟨Nat.zero_le _, Nat.zero_le _⟩) hS_507 (fun Y_510 H_511 locs_512 hW_513 hS_514 h_509 => ?_)
          replace h_509 : Y_510 = setRow (setRow (setRow (setRow X 15 w_494) 23 w_495) 15 (upd w_494 (8) (nI (0 + 1 + sb_dg m1 + 1)))) 23 (upd w_495 (0 + 1 + sb_dg m1) (oM_letter 2)) := h_509
          obtain ⟨w_515, ew_515⟩ : ∃ Z9, Z9 = upd w_494 (8) (nI (0 + 1 + sb_dg m1 + 1)) := ⟨_, rfl⟩
          obtain ⟨w_516, ew_516⟩ : ∃ Z9, Z9 = upd w_495 (0 + 1 + sb_dg m1) (oM_letter 2) := ⟨_, rfl⟩
          have qqw_515 : Y_510 = setRow (setRow (setRow (setRow X 15 w_494) 23 w_495) 15 w_515) 23 w_516 := by rw [h_509, ew_515, ew_516]
          have hW_517 : Wd G (setRow (setRow X 15 w_515) 23 w_516) H_511 := Wd.cast (((qqw_515).trans (congrArg (fun Z9 => setRow (Z9) 23 w_516) (sr_in (by decide) sr_out))).trans (congrArg (fun Z9 => Z9) sr_out)) hW_513
          have kn_518 : w_515 (8) = nI (0 + 1 + sb_dg m1 + 1) := by rw [ew_515]; exact pk_us
          refine lv_aload_n hx hb dX8_renderFurnace_64 rfl (lv_at hl_499 2 rfl) ?_
          refine lv_aload_n hx hb dX8_renderFurnace_65 rfl (lv_at hl_499 2 rfl) ?_
          refine gM_v C hW_517 (hwc hwX8) (mc qw_1481) dX8_renderFurnace_66 ?_
          refine lv_iload_n hx hb dX8_renderFurnace_69 rfl (lv_at hl_499 1 rfl) ?_
          refine lv_iload_n hx hb dX8_renderFurnace_70 rfl (lv_at hl_499 0 rfl) ?_
          refine lv_iadd hx hb dX8_renderFurnace_71 ?_
          refine g_top (y := nI ((9 + 6 * f_17) + 2)) (nI_add (9 + 6 * f_17) 2) ?_
          refine gm_vld C hW_517 ((9 + 6 * f_17) + 2) (nI_clamp (by omega)) (vp_in_nI (show (9 + 6 * f_17) + 2 < 128 by omega) (by decide)) dX8_renderFurnace_72 ?_
          refine g_top (y := X.1 16 ((9 + 6 * f_17) + 2)) (congrFun (rd_in (by decide) (rd_in (by decide) rfl)) _) ?_
          refine g_top (y := nI m2) em2 ?_
          refine g_callv (va_runV (As := [.int (nI m2)]) (rest := []) C.1 (cX8_writesNumber_ok l G (setRow (setRow X 15 w_515) 23 w_516) (0 + 1 + sb_dg m1 + 1) (show 0 + 1 + sb_dg m1 + 1 + 4 < 40 by omega) kn_518 m2 (show m2 < 10000 by omega)) (cwV 1 C.1.2.2.2.2 (gV qw_1867 qw_1869 qw_60 qw_81 qw_1870) rfl rfl rfl (by decide +kernel) ⟨Nat.le_of_ble_eq_true rfl, Nat.le_of_ble_eq_true rfl⟩) (g_rModel C hW_517 hS_514 [.int (nI m2)]) rfl rfl hl_499.1 rfl (lv_room (Nat.le_of_ble_eq_true rfl)) dX8_renderFurnace_73 ⟨Nat.zero_le _, Nat.zero_le _⟩) hS_514 (fun Y_520 H_521 locs_522 hW_523 hS_524 h_519 => ?_)
          replace h_519 : Y_520 = setRow (setRow (setRow (setRow X 15 w_515) 23 w_516) 15 (upd w_515 (8) (nI (0 + 1 + sb_dg m1 + 1 + sb_dg m2)))) 23 (wnR w_516 (0 + 1 + sb_dg m1 + 1) m2) := h_519
          obtain ⟨w_525, ew_525⟩ : ∃ Z9, Z9 = upd w_515 (8) (nI (0 + 1 + sb_dg m1 + 1 + sb_dg m2)) := ⟨_, rfl⟩
          obtain ⟨w_526, ew_526⟩ : ∃ Z9, Z9 = wnR w_516 (0 + 1 + sb_dg m1 + 1) m2 := ⟨_, rfl⟩
          have qqw_525 : Y_520 = setRow (setRow (setRow (setRow X 15 w_515) 23 w_516) 15 w_525) 23 w_526 := by rw [h_519, ew_525, ew_526]
          have hW_527 : Wd G (setRow (setRow X 15 w_525) 23 w_526) H_521 := Wd.cast (((qqw_525).trans (congrArg (fun Z9 => setRow (Z9) 23 w_526) (sr_in (by decide) sr_out))).trans (congrArg (fun Z9 => Z9) sr_out)) hW_523
          have kn_528 : w_525 (8) = nI (0 + 1 + sb_dg m1 + 1 + sb_dg m2) := by rw [ew_525]; exact pk_us
          refine lv_iinc (v := 3) (lv' := [(3, .int 3), (2, .int (nI (9 + 6 * f_17))), (0, .ref (ad G 723)), (1, .int (nI f_17))]) hx hb dX8_renderFurnace_76 hl_499 (k := 0) rfl (by decide) (by decide) rfl (fun ls_529 hl_530 => ?_)
          refine lv_goto (tgt := 37) hx hb dX8_renderFurnace_79 (by decide) ?_
          refine lv_iload_n hx hb dX8_renderFurnace_37 rfl (lv_at hl_530 0 rfl) ?_
          refine lv_iconst (v := 4) hx hb dX8_renderFurnace_38 (by decide) ?_
          refine lv_icmp_ge (tgt := 82) hx hb dX8_renderFurnace_39 (by decide) (fun h9 => absurd h9 (by decide)) (fun _ => ?_)
          refine lv_aload_n hx hb dX8_renderFurnace_42 rfl (lv_at hl_530 2 rfl) ?_
          refine gM_v C hW_527 (hwc hwX8) (mc qw_1481) dX8_renderFurnace_43 ?_
          refine lv_iload_n hx hb dX8_renderFurnace_46 rfl (lv_at hl_530 1 rfl) ?_
          refine lv_iload_n hx hb dX8_renderFurnace_47 rfl (lv_at hl_530 0 rfl) ?_
          refine lv_iadd hx hb dX8_renderFurnace_48 ?_
          refine g_top (y := nI ((9 + 6 * f_17) + 3)) (nI_add (9 + 6 * f_17) 3) ?_
          refine gm_vld C hW_527 ((9 + 6 * f_17) + 3) (nI_clamp (by omega)) (vp_in_nI (show (9 + 6 * f_17) + 3 < 128 by omega) (by decide)) dX8_renderFurnace_49 ?_
          refine g_top (y := X.1 16 ((9 + 6 * f_17) + 3)) (congrFun (rd_in (by decide) (rd_in (by decide) rfl)) _) ?_
          refine g_top (y := nI m3) em3 ?_
          refine lv_if_ne (tgt := 56) hx hb dX8_renderFurnace_50 (by decide) (fun b_531 => ?_) (fun b_531 => ?_)
          · have fb_531 : ¬ m3 = 0 := fun q9 => b_531 ((nI_eq (a := m3) (b := 0) (by omega) (by omega)).mpr q9)
            refine lv_aload_n hx hb dX8_renderFurnace_56 rfl (lv_at hl_530 2 rfl) ?_
            refine lv_iload_n hx hb dX8_renderFurnace_57 rfl (lv_at hl_530 0 rfl) ?_
            refine g_calli (va_runS (As := [.int 3]) (rest := [.ref (ad G 723)]) C.1 (cX8_letter_ok l G (setRow (setRow X 15 w_525) 23 w_526) 3) (va_cwS 1 C.1.2.2.2.2 (gS qw_1860 qw_1861 qw_81 qw_1862) rfl rfl rfl (by decide +kernel) ⟨Nat.le_of_ble_eq_true rfl, Nat.le_of_ble_eq_true rfl⟩) (g_pre C hW_527 hS_524 [.int 3]) rfl rfl hl_530.1 rfl (lv_room (Nat.le_of_ble_eq_true rfl)) dX8_renderFurnace_58 ⟨Nat.zero_le _, Nat.zero_le _⟩) hS_524 (fun r_533 Y_534 H_535 locs_536 hW_537 hS_538 h_532 => ?_)
            obtain ⟨h_532, hy_539⟩ := h_532
            replace hy_539 := hy_539.symm
            subst hy_539
            replace h_532 : r_533 = oM_letter 3 := h_532
            subst h_532
            refine g_callv (va_runV (As := [.int (oM_letter 3)]) (rest := []) C.1 (cX8_writes_ok l G (setRow (setRow X 15 w_525) 23 w_526) (0 + 1 + sb_dg m1 + 1 + sb_dg m2) (show 0 + 1 + sb_dg m1 + 1 + sb_dg m2 < 40 by omega) kn_528 (oM_letter 3)) (cwV 1 C.1.2.2.2.2 (gV qw_1863 qw_1865 qw_59 qw_81 qw_1866) rfl rfl rfl (by decide +kernel) ⟨Nat.le_of_ble_eq_true rfl, Nat.le_of_ble_eq_true rfl⟩) (g_rModel C hW_537 hS_538 [.int (oM_letter 3)]) rfl rfl hl_530.1 rfl (lv_room (Nat.le_of_ble_eq_true rfl)) dX8_renderFurnace_61 ⟨Nat.zero_le _, Nat.zero_le _⟩) hS_538 (fun Y_541 H_542 locs_543 hW_544 hS_545 h_540 => ?_)
            replace h_540 : Y_541 = setRow (setRow (setRow (setRow X 15 w_525) 23 w_526) 15 (upd w_525 (8) (nI (0 + 1 + sb_dg m1 + 1 + sb_dg m2 + 1)))) 23 (upd w_526 (0 + 1 + sb_dg m1 + 1 + sb_dg m2) (oM_letter 3)) := h_540
            obtain ⟨w_546, ew_546⟩ : ∃ Z9, Z9 = upd w_525 (8) (nI (0 + 1 + sb_dg m1 + 1 + sb_dg m2 + 1)) := ⟨_, rfl⟩
            obtain ⟨w_547, ew_547⟩ : ∃ Z9, Z9 = upd w_526 (0 + 1 + sb_dg m1 + 1 + sb_dg m2) (oM_letter 3) := ⟨_, rfl⟩
            have qqw_546 : Y_541 = setRow (setRow (setRow (setRow X 15 w_525) 23 w_526) 15 w_546) 23 w_547 := by rw [h_540, ew_546, ew_547]
            have hW_548 : Wd G (setRow (setRow X 15 w_546) 23 w_547) H_542 := Wd.cast (((qqw_546).trans (congrArg (fun Z9 => setRow (Z9) 23 w_547) (sr_in (by decide) sr_out))).trans (congrArg (fun Z9 => Z9) sr_out)) hW_544
            have kn_549 : w_546 (8) = nI (0 + 1 + sb_dg m1 + 1 + sb_dg m2 + 1) := by rw [ew_546]; exact pk_us
            refine lv_aload_n hx hb dX8_renderFurnace_64 rfl (lv_at hl_530 2 rfl) ?_
            refine lv_aload_n hx hb dX8_renderFurnace_65 rfl (lv_at hl_530 2 rfl) ?_
            refine gM_v C hW_548 (hwc hwX8) (mc qw_1481) dX8_renderFurnace_66 ?_
            refine lv_iload_n hx hb dX8_renderFurnace_69 rfl (lv_at hl_530 1 rfl) ?_
            refine lv_iload_n hx hb dX8_renderFurnace_70 rfl (lv_at hl_530 0 rfl) ?_
            refine lv_iadd hx hb dX8_renderFurnace_71 ?_
            refine g_top (y := nI ((9 + 6 * f_17) + 3)) (nI_add (9 + 6 * f_17) 3) ?_
            refine gm_vld C hW_548 ((9 + 6 * f_17) + 3) (nI_clamp (by omega)) (vp_in_nI (show (9 + 6 * f_17) + 3 < 128 by omega) (by decide)) dX8_renderFurnace_72 ?_
            refine g_top (y := X.1 16 ((9 + 6 * f_17) + 3)) (congrFun (rd_in (by decide) (rd_in (by decide) rfl)) _) ?_
            refine g_top (y := nI m3) em3 ?_
            refine g_callv (va_runV (As := [.int (nI m3)]) (rest := []) C.1 (cX8_writesNumber_ok l G (setRow (setRow X 15 w_546) 23 w_547) (0 + 1 + sb_dg m1 + 1 + sb_dg m2 + 1) (show 0 + 1 + sb_dg m1 + 1 + sb_dg m2 + 1 + 4 < 40 by omega) kn_549 m3 (show m3 < 10000 by omega)) (cwV 1 C.1.2.2.2.2 (gV qw_1867 qw_1869 qw_60 qw_81 qw_1870) rfl rfl rfl (by decide +kernel) ⟨Nat.le_of_ble_eq_true rfl, Nat.le_of_ble_eq_true rfl⟩) (g_rModel C hW_548 hS_545 [.int (nI m3)]) rfl rfl hl_530.1 rfl (lv_room (Nat.le_of_ble_eq_true rfl)) dX8_renderFurnace_73 ⟨Nat.zero_le _, Nat.zero_le _⟩) hS_545 (fun Y_551 H_552 locs_553 hW_554 hS_555 h_550 => ?_)
            replace h_550 : Y_551 = setRow (setRow (setRow (setRow X 15 w_546) 23 w_547) 15 (upd w_546 (8) (nI (0 + 1 + sb_dg m1 + 1 + sb_dg m2 + 1 + sb_dg m3)))) 23 (wnR w_547 (0 + 1 + sb_dg m1 + 1 + sb_dg m2 + 1) m3) := h_550
            obtain ⟨w_556, ew_556⟩ : ∃ Z9, Z9 = upd w_546 (8) (nI (0 + 1 + sb_dg m1 + 1 + sb_dg m2 + 1 + sb_dg m3)) := ⟨_, rfl⟩
            obtain ⟨w_557, ew_557⟩ : ∃ Z9, Z9 = wnR w_547 (0 + 1 + sb_dg m1 + 1 + sb_dg m2 + 1) m3 := ⟨_, rfl⟩
            have qqw_556 : Y_551 = setRow (setRow (setRow (setRow X 15 w_546) 23 w_547) 15 w_556) 23 w_557 := by rw [h_550, ew_556, ew_557]
            have hW_558 : Wd G (setRow (setRow X 15 w_556) 23 w_557) H_552 := Wd.cast (((qqw_556).trans (congrArg (fun Z9 => setRow (Z9) 23 w_557) (sr_in (by decide) sr_out))).trans (congrArg (fun Z9 => Z9) sr_out)) hW_554
            have kn_559 : w_556 (8) = nI (0 + 1 + sb_dg m1 + 1 + sb_dg m2 + 1 + sb_dg m3) := by rw [ew_556]; exact pk_us
            refine lv_iinc (v := 4) (lv' := [(3, .int 4), (2, .int (nI (9 + 6 * f_17))), (0, .ref (ad G 723)), (1, .int (nI f_17))]) hx hb dX8_renderFurnace_76 hl_530 (k := 0) rfl (by decide) (by decide) rfl (fun ls_560 hl_561 => ?_)
            refine lv_goto (tgt := 37) hx hb dX8_renderFurnace_79 (by decide) ?_
            refine lv_iload_n hx hb dX8_renderFurnace_37 rfl (lv_at hl_561 0 rfl) ?_
            refine lv_iconst (v := 4) hx hb dX8_renderFurnace_38 (by decide) ?_
            refine lv_icmp_ge (tgt := 82) hx hb dX8_renderFurnace_39 (by decide) (fun _ => ?_) (fun h9 => absurd h9 (by decide))
            refine lv_aload_n hx hb dX8_renderFurnace_82 rfl (lv_at hl_561 2 rfl) ?_
            refine lv_bipush (v := 64) hx hb dX8_renderFurnace_83 (by decide) ?_
            refine g_callv (va_runV (As := [.int 64]) (rest := []) C.1 (cX8_writes_ok l G (setRow (setRow X 15 w_556) 23 w_557) (0 + 1 + sb_dg m1 + 1 + sb_dg m2 + 1 + sb_dg m3) (show 0 + 1 + sb_dg m1 + 1 + sb_dg m2 + 1 + sb_dg m3 < 40 by omega) kn_559 64) (cwV 1 C.1.2.2.2.2 (gV qw_1863 qw_1865 qw_59 qw_81 qw_1866) rfl rfl rfl (by decide +kernel) ⟨Nat.le_of_ble_eq_true rfl, Nat.le_of_ble_eq_true rfl⟩) (g_rModel C hW_558 hS_555 [.int 64]) rfl rfl hl_561.1 rfl (lv_room (Nat.le_of_ble_eq_true rfl)) dX8_renderFurnace_85 ⟨Nat.zero_le _, Nat.zero_le _⟩) hS_555 (fun Y_563 H_564 locs_565 hW_566 hS_567 h_562 => ?_)
            replace h_562 : Y_563 = setRow (setRow (setRow (setRow X 15 w_556) 23 w_557) 15 (upd w_556 (8) (nI (0 + 1 + sb_dg m1 + 1 + sb_dg m2 + 1 + sb_dg m3 + 1)))) 23 (upd w_557 (0 + 1 + sb_dg m1 + 1 + sb_dg m2 + 1 + sb_dg m3) 64) := h_562
            obtain ⟨w_568, ew_568⟩ : ∃ Z9, Z9 = upd w_556 (8) (nI (0 + 1 + sb_dg m1 + 1 + sb_dg m2 + 1 + sb_dg m3 + 1)) := ⟨_, rfl⟩
            obtain ⟨w_569, ew_569⟩ : ∃ Z9, Z9 = upd w_557 (0 + 1 + sb_dg m1 + 1 + sb_dg m2 + 1 + sb_dg m3) 64 := ⟨_, rfl⟩
            have qqw_568 : Y_563 = setRow (setRow (setRow (setRow X 15 w_556) 23 w_557) 15 w_568) 23 w_569 := by rw [h_562, ew_568, ew_569]
            have hW_570 : Wd G (setRow (setRow X 15 w_568) 23 w_569) H_564 := Wd.cast (((qqw_568).trans (congrArg (fun Z9 => setRow (Z9) 23 w_569) (sr_in (by decide) sr_out))).trans (congrArg (fun Z9 => Z9) sr_out)) hW_566
            have kn_571 : w_568 (8) = nI (0 + 1 + sb_dg m1 + 1 + sb_dg m2 + 1 + sb_dg m3 + 1) := by rw [ew_568]; exact pk_us
            refine lv_aload_n hx hb dX8_renderFurnace_88 rfl (lv_at hl_561 2 rfl) ?_
            refine lv_aload_n hx hb dX8_renderFurnace_89 rfl (lv_at hl_561 2 rfl) ?_
            refine gM_v C hW_570 (hwc hwX8) (mc qw_1481) dX8_renderFurnace_90 ?_
            refine lv_iload_n hx hb dX8_renderFurnace_93 rfl (lv_at hl_561 1 rfl) ?_
            refine lv_iconst (v := 4) hx hb dX8_renderFurnace_94 (by decide) ?_
            refine lv_iadd hx hb dX8_renderFurnace_95 ?_
            refine g_top (y := nI ((9 + 6 * f_17) + 4)) (nI_add (9 + 6 * f_17) 4) ?_
            refine gm_vld C hW_570 ((9 + 6 * f_17) + 4) (nI_clamp (by omega)) (vp_in_nI (show (9 + 6 * f_17) + 4 < 128 by omega) (by decide)) dX8_renderFurnace_96 ?_
            refine g_top (y := X.1 16 ((9 + 6 * f_17) + 4)) (congrFun (rd_in (by decide) (rd_in (by decide) rfl)) _) ?_
            refine g_top (y := nI tt) em4 ?_
            refine g_callv (va_runV (As := [.int (nI tt)]) (rest := []) C.1 (cX8_writesNumber_ok l G (setRow (setRow X 15 w_568) 23 w_569) (0 + 1 + sb_dg m1 + 1 + sb_dg m2 + 1 + sb_dg m3 + 1) (show 0 + 1 + sb_dg m1 + 1 + sb_dg m2 + 1 + sb_dg m3 + 1 + 4 < 40 by omega) kn_571 tt (show tt < 10000 by omega)) (cwV 1 C.1.2.2.2.2 (gV qw_1867 qw_1869 qw_60 qw_81 qw_1870) rfl rfl rfl (by decide +kernel) ⟨Nat.le_of_ble_eq_true rfl, Nat.le_of_ble_eq_true rfl⟩) (g_rModel C hW_570 hS_567 [.int (nI tt)]) rfl rfl hl_561.1 rfl (lv_room (Nat.le_of_ble_eq_true rfl)) dX8_renderFurnace_97 ⟨Nat.zero_le _, Nat.zero_le _⟩) hS_567 (fun Y_573 H_574 locs_575 hW_576 hS_577 h_572 => ?_)
            replace h_572 : Y_573 = setRow (setRow (setRow (setRow X 15 w_568) 23 w_569) 15 (upd w_568 (8) (nI (0 + 1 + sb_dg m1 + 1 + sb_dg m2 + 1 + sb_dg m3 + 1 + sb_dg tt)))) 23 (wnR w_569 (0 + 1 + sb_dg m1 + 1 + sb_dg m2 + 1 + sb_dg m3 + 1) tt) := h_572
            obtain ⟨w_578, ew_578⟩ : ∃ Z9, Z9 = upd w_568 (8) (nI (0 + 1 + sb_dg m1 + 1 + sb_dg m2 + 1 + sb_dg m3 + 1 + sb_dg tt)) := ⟨_, rfl⟩
            obtain ⟨w_579, ew_579⟩ : ∃ Z9, Z9 = wnR w_569 (0 + 1 + sb_dg m1 + 1 + sb_dg m2 + 1 + sb_dg m3 + 1) tt := ⟨_, rfl⟩
            have qqw_578 : Y_573 = setRow (setRow (setRow (setRow X 15 w_568) 23 w_569) 15 w_578) 23 w_579 := by rw [h_572, ew_578, ew_579]
            have hW_580 : Wd G (setRow (setRow X 15 w_578) 23 w_579) H_574 := Wd.cast (((qqw_578).trans (congrArg (fun Z9 => setRow (Z9) 23 w_579) (sr_in (by decide) sr_out))).trans (congrArg (fun Z9 => Z9) sr_out)) hW_576
            have kn_581 : w_578 (8) = nI (0 + 1 + sb_dg m1 + 1 + sb_dg m2 + 1 + sb_dg m3 + 1 + sb_dg tt) := by rw [ew_578]; exact pk_us
            refine lv_aload_n hx hb dX8_renderFurnace_100 rfl (lv_at hl_561 2 rfl) ?_
            refine gM_lineN C hW_580 (hwc hwX8) (mc qw_1495) dX8_renderFurnace_101 ?_
            refine g_top (y := w_578 (8)) (congrFun (rd_in (by decide) rd_out) _) ?_
            refine g_top (y := nI (0 + 1 + sb_dg m1 + 1 + sb_dg m2 + 1 + sb_dg m3 + 1 + sb_dg tt)) kn_581 ?_
            exact g_iret C hr hlk hW_580 hS_577 dX8_renderFurnace_104 (by subst ew_579; subst ew_578; subst ew_569; subst ew_568; subst ew_557; subst ew_556; subst ew_547; subst ew_546; subst ew_526; subst ew_525; subst ew_516; subst ew_515; subst ew_495; subst ew_494; subst ew_485; subst ew_484; subst ew_39; subst ew_22; have e9 : rmS (X.1 16) (9 + 6 * f_17) (X.1 23) = (0 + 1 + sb_dg m1 + 1 + sb_dg m2 + 1 + sb_dg m3 + 1 + sb_dg tt, _) := (by simp only [rmS, rmM, show X.1 16 (9 + 6 * f_17) = nI m0 from em0, em1, em2, em3, em4, clf (show m0 < 2 ^ 31 by omega), clf (show m1 < 2 ^ 31 by omega), clf (show m2 < 2 ^ 31 by omega), clf (show m3 < 2 ^ 31 by omega), clf (show tt < 2 ^ 31 by omega), eq_true b_45, b_469, b_500, b_531, if_true, if_false, Nat.zero_add]; first | done | rfl); exact ⟨by simp only [oM_renderFurnace, b_9, if_false, clf (show f_17 < 2 ^ 31 by omega), e9]; first | done | rfl, by simp only [oM_renderFurnace, b_9, if_false, clf (show f_17 < 2 ^ 31 by omega), e9, uu8]; first | done | rfl⟩)
          · have fb_531 : m3 = 0 := (nI_eq (a := m3) (b := 0) (by omega) (by omega)).mp b_531
            refine lv_goto (tgt := 76) hx hb dX8_renderFurnace_53 (by decide) ?_
            refine lv_iinc (v := 4) (lv' := [(3, .int 4), (2, .int (nI (9 + 6 * f_17))), (0, .ref (ad G 723)), (1, .int (nI f_17))]) hx hb dX8_renderFurnace_76 hl_530 (k := 0) rfl (by decide) (by decide) rfl (fun ls_582 hl_583 => ?_)
            refine lv_goto (tgt := 37) hx hb dX8_renderFurnace_79 (by decide) ?_
            refine lv_iload_n hx hb dX8_renderFurnace_37 rfl (lv_at hl_583 0 rfl) ?_
            refine lv_iconst (v := 4) hx hb dX8_renderFurnace_38 (by decide) ?_
            refine lv_icmp_ge (tgt := 82) hx hb dX8_renderFurnace_39 (by decide) (fun _ => ?_) (fun h9 => absurd h9 (by decide))
            refine lv_aload_n hx hb dX8_renderFurnace_82 rfl (lv_at hl_583 2 rfl) ?_
            refine lv_bipush (v := 64) hx hb dX8_renderFurnace_83 (by decide) ?_
            refine g_callv (va_runV (As := [.int 64]) (rest := []) C.1 (cX8_writes_ok l G (setRow (setRow X 15 w_525) 23 w_526) (0 + 1 + sb_dg m1 + 1 + sb_dg m2) (show 0 + 1 + sb_dg m1 + 1 + sb_dg m2 < 40 by omega) kn_528 64) (cwV 1 C.1.2.2.2.2 (gV qw_1863 qw_1865 qw_59 qw_81 qw_1866) rfl rfl rfl (by decide +kernel) ⟨Nat.le_of_ble_eq_true rfl, Nat.le_of_ble_eq_true rfl⟩) (g_rModel C hW_527 hS_524 [.int 64]) rfl rfl hl_583.1 rfl (lv_room (Nat.le_of_ble_eq_true rfl)) dX8_renderFurnace_85 ⟨Nat.zero_le _, Nat.zero_le _⟩) hS_524 (fun Y_585 H_586 locs_587 hW_588 hS_589 h_584 => ?_)
            replace h_584 : Y_585 = setRow (setRow (setRow (setRow X 15 w_525) 23 w_526) 15 (upd w_525 (8) (nI (0 + 1 + sb_dg m1 + 1 + sb_dg m2 + 1)))) 23 (upd w_526 (0 + 1 + sb_dg m1 + 1 + sb_dg m2) 64) := h_584
            obtain ⟨w_590, ew_590⟩ : ∃ Z9, Z9 = upd w_525 (8) (nI (0 + 1 + sb_dg m1 + 1 + sb_dg m2 + 1)) := ⟨_, rfl⟩
            obtain ⟨w_591, ew_591⟩ : ∃ Z9, Z9 = upd w_526 (0 + 1 + sb_dg m1 + 1 + sb_dg m2) 64 := ⟨_, rfl⟩
            have qqw_590 : Y_585 = setRow (setRow (setRow (setRow X 15 w_525) 23 w_526) 15 w_590) 23 w_591 := by rw [h_584, ew_590, ew_591]
            have hW_592 : Wd G (setRow (setRow X 15 w_590) 23 w_591) H_586 := Wd.cast (((qqw_590).trans (congrArg (fun Z9 => setRow (Z9) 23 w_591) (sr_in (by decide) sr_out))).trans (congrArg (fun Z9 => Z9) sr_out)) hW_588
            have kn_593 : w_590 (8) = nI (0 + 1 + sb_dg m1 + 1 + sb_dg m2 + 1) := by rw [ew_590]; exact pk_us
            refine lv_aload_n hx hb dX8_renderFurnace_88 rfl (lv_at hl_583 2 rfl) ?_
            refine lv_aload_n hx hb dX8_renderFurnace_89 rfl (lv_at hl_583 2 rfl) ?_
            refine gM_v C hW_592 (hwc hwX8) (mc qw_1481) dX8_renderFurnace_90 ?_
            refine lv_iload_n hx hb dX8_renderFurnace_93 rfl (lv_at hl_583 1 rfl) ?_
            refine lv_iconst (v := 4) hx hb dX8_renderFurnace_94 (by decide) ?_
            refine lv_iadd hx hb dX8_renderFurnace_95 ?_
            refine g_top (y := nI ((9 + 6 * f_17) + 4)) (nI_add (9 + 6 * f_17) 4) ?_
            refine gm_vld C hW_592 ((9 + 6 * f_17) + 4) (nI_clamp (by omega)) (vp_in_nI (show (9 + 6 * f_17) + 4 < 128 by omega) (by decide)) dX8_renderFurnace_96 ?_
            refine g_top (y := X.1 16 ((9 + 6 * f_17) + 4)) (congrFun (rd_in (by decide) (rd_in (by decide) rfl)) _) ?_
            refine g_top (y := nI tt) em4 ?_
            refine g_callv (va_runV (As := [.int (nI tt)]) (rest := []) C.1 (cX8_writesNumber_ok l G (setRow (setRow X 15 w_590) 23 w_591) (0 + 1 + sb_dg m1 + 1 + sb_dg m2 + 1) (show 0 + 1 + sb_dg m1 + 1 + sb_dg m2 + 1 + 4 < 40 by omega) kn_593 tt (show tt < 10000 by omega)) (cwV 1 C.1.2.2.2.2 (gV qw_1867 qw_1869 qw_60 qw_81 qw_1870) rfl rfl rfl (by decide +kernel) ⟨Nat.le_of_ble_eq_true rfl, Nat.le_of_ble_eq_true rfl⟩) (g_rModel C hW_592 hS_589 [.int (nI tt)]) rfl rfl hl_583.1 rfl (lv_room (Nat.le_of_ble_eq_true rfl)) dX8_renderFurnace_97 ⟨Nat.zero_le _, Nat.zero_le _⟩) hS_589 (fun Y_595 H_596 locs_597 hW_598 hS_599 h_594 => ?_)
            replace h_594 : Y_595 = setRow (setRow (setRow (setRow X 15 w_590) 23 w_591) 15 (upd w_590 (8) (nI (0 + 1 + sb_dg m1 + 1 + sb_dg m2 + 1 + sb_dg tt)))) 23 (wnR w_591 (0 + 1 + sb_dg m1 + 1 + sb_dg m2 + 1) tt) := h_594
            obtain ⟨w_600, ew_600⟩ : ∃ Z9, Z9 = upd w_590 (8) (nI (0 + 1 + sb_dg m1 + 1 + sb_dg m2 + 1 + sb_dg tt)) := ⟨_, rfl⟩
            obtain ⟨w_601, ew_601⟩ : ∃ Z9, Z9 = wnR w_591 (0 + 1 + sb_dg m1 + 1 + sb_dg m2 + 1) tt := ⟨_, rfl⟩
            have qqw_600 : Y_595 = setRow (setRow (setRow (setRow X 15 w_590) 23 w_591) 15 w_600) 23 w_601 := by rw [h_594, ew_600, ew_601]
            have hW_602 : Wd G (setRow (setRow X 15 w_600) 23 w_601) H_596 := Wd.cast (((qqw_600).trans (congrArg (fun Z9 => setRow (Z9) 23 w_601) (sr_in (by decide) sr_out))).trans (congrArg (fun Z9 => Z9) sr_out)) hW_598
            have kn_603 : w_600 (8) = nI (0 + 1 + sb_dg m1 + 1 + sb_dg m2 + 1 + sb_dg tt) := by rw [ew_600]; exact pk_us
            refine lv_aload_n hx hb dX8_renderFurnace_100 rfl (lv_at hl_583 2 rfl) ?_
            refine gM_lineN C hW_602 (hwc hwX8) (mc qw_1495) dX8_renderFurnace_101 ?_
            refine g_top (y := w_600 (8)) (congrFun (rd_in (by decide) rd_out) _) ?_
            refine g_top (y := nI (0 + 1 + sb_dg m1 + 1 + sb_dg m2 + 1 + sb_dg tt)) kn_603 ?_
            exact g_iret C hr hlk hW_602 hS_599 dX8_renderFurnace_104 (by subst ew_601; subst ew_600; subst ew_591; subst ew_590; subst ew_526; subst ew_525; subst ew_516; subst ew_515; subst ew_495; subst ew_494; subst ew_485; subst ew_484; subst ew_39; subst ew_22; have e9 : rmS (X.1 16) (9 + 6 * f_17) (X.1 23) = (0 + 1 + sb_dg m1 + 1 + sb_dg m2 + 1 + sb_dg tt, _) := (by simp only [rmS, rmM, show X.1 16 (9 + 6 * f_17) = nI m0 from em0, em1, em2, em3, em4, clf (show m0 < 2 ^ 31 by omega), clf (show m1 < 2 ^ 31 by omega), clf (show m2 < 2 ^ 31 by omega), clf (show m3 < 2 ^ 31 by omega), clf (show tt < 2 ^ 31 by omega), eq_true b_45, b_469, b_500, eq_true b_531, if_true, if_false, Nat.zero_add]; first | done | rfl); exact ⟨by simp only [oM_renderFurnace, b_9, if_false, clf (show f_17 < 2 ^ 31 by omega), e9]; first | done | rfl, by simp only [oM_renderFurnace, b_9, if_false, clf (show f_17 < 2 ^ 31 by omega), e9, uu8]; first | done | rfl⟩)
        · have fb_500 : m2 = 0 := (nI_eq (a := m2) (b := 0) (by omega) (by omega)).mp b_500
          refine lv_goto (tgt := 76) hx hb dX8_renderFurnace_53 (by decide) ?_
          refine lv_iinc (v := 3) (lv' := [(3, .int 3), (2, .int (nI (9 + 6 * f_17))), (0, .ref (ad G 723)), (1, .int (nI f_17))]) hx hb dX8_renderFurnace_76 hl_499 (k := 0) rfl (by decide) (by decide) rfl (fun ls_604 hl_605 => ?_)
          refine lv_goto (tgt := 37) hx hb dX8_renderFurnace_79 (by decide) ?_
          refine lv_iload_n hx hb dX8_renderFurnace_37 rfl (lv_at hl_605 0 rfl) ?_
          refine lv_iconst (v := 4) hx hb dX8_renderFurnace_38 (by decide) ?_
          refine lv_icmp_ge (tgt := 82) hx hb dX8_renderFurnace_39 (by decide) (fun h9 => absurd h9 (by decide)) (fun _ => ?_)
          refine lv_aload_n hx hb dX8_renderFurnace_42 rfl (lv_at hl_605 2 rfl) ?_
          refine gM_v C hW_496 (hwc hwX8) (mc qw_1481) dX8_renderFurnace_43 ?_
          refine lv_iload_n hx hb dX8_renderFurnace_46 rfl (lv_at hl_605 1 rfl) ?_
          refine lv_iload_n hx hb dX8_renderFurnace_47 rfl (lv_at hl_605 0 rfl) ?_
          refine lv_iadd hx hb dX8_renderFurnace_48 ?_
          refine g_top (y := nI ((9 + 6 * f_17) + 3)) (nI_add (9 + 6 * f_17) 3) ?_
          refine gm_vld C hW_496 ((9 + 6 * f_17) + 3) (nI_clamp (by omega)) (vp_in_nI (show (9 + 6 * f_17) + 3 < 128 by omega) (by decide)) dX8_renderFurnace_49 ?_
          refine g_top (y := X.1 16 ((9 + 6 * f_17) + 3)) (congrFun (rd_in (by decide) (rd_in (by decide) rfl)) _) ?_
          refine g_top (y := nI m3) em3 ?_
          refine lv_if_ne (tgt := 56) hx hb dX8_renderFurnace_50 (by decide) (fun b_606 => ?_) (fun b_606 => ?_)
          · have fb_606 : ¬ m3 = 0 := fun q9 => b_606 ((nI_eq (a := m3) (b := 0) (by omega) (by omega)).mpr q9)
            refine lv_aload_n hx hb dX8_renderFurnace_56 rfl (lv_at hl_605 2 rfl) ?_
            refine lv_iload_n hx hb dX8_renderFurnace_57 rfl (lv_at hl_605 0 rfl) ?_
            refine g_calli (va_runS (As := [.int 3]) (rest := [.ref (ad G 723)]) C.1 (cX8_letter_ok l G (setRow (setRow X 15 w_494) 23 w_495) 3) (va_cwS 1 C.1.2.2.2.2 (gS qw_1860 qw_1861 qw_81 qw_1862) rfl rfl rfl (by decide +kernel) ⟨Nat.le_of_ble_eq_true rfl, Nat.le_of_ble_eq_true rfl⟩) (g_pre C hW_496 hS_493 [.int 3]) rfl rfl hl_605.1 rfl (lv_room (Nat.le_of_ble_eq_true rfl)) dX8_renderFurnace_58 ⟨Nat.zero_le _, Nat.zero_le _⟩) hS_493 (fun r_608 Y_609 H_610 locs_611 hW_612 hS_613 h_607 => ?_)
            obtain ⟨h_607, hy_614⟩ := h_607
            replace hy_614 := hy_614.symm
            subst hy_614
            replace h_607 : r_608 = oM_letter 3 := h_607
            subst h_607
            refine g_callv (va_runV (As := [.int (oM_letter 3)]) (rest := []) C.1 (cX8_writes_ok l G (setRow (setRow X 15 w_494) 23 w_495) (0 + 1 + sb_dg m1) (show 0 + 1 + sb_dg m1 < 40 by omega) kn_497 (oM_letter 3)) (cwV 1 C.1.2.2.2.2 (gV qw_1863 qw_1865 qw_59 qw_81 qw_1866) rfl rfl rfl (by decide +kernel) ⟨Nat.le_of_ble_eq_true rfl, Nat.le_of_ble_eq_true rfl⟩) (g_rModel C hW_612 hS_613 [.int (oM_letter 3)]) rfl rfl hl_605.1 rfl (lv_room (Nat.le_of_ble_eq_true rfl)) dX8_renderFurnace_61 ⟨Nat.zero_le _, Nat.zero_le _⟩) hS_613 (fun Y_616 H_617 locs_618 hW_619 hS_620 h_615 => ?_)
            replace h_615 : Y_616 = setRow (setRow (setRow (setRow X 15 w_494) 23 w_495) 15 (upd w_494 (8) (nI (0 + 1 + sb_dg m1 + 1)))) 23 (upd w_495 (0 + 1 + sb_dg m1) (oM_letter 3)) := h_615
            obtain ⟨w_621, ew_621⟩ : ∃ Z9, Z9 = upd w_494 (8) (nI (0 + 1 + sb_dg m1 + 1)) := ⟨_, rfl⟩
            obtain ⟨w_622, ew_622⟩ : ∃ Z9, Z9 = upd w_495 (0 + 1 + sb_dg m1) (oM_letter 3) := ⟨_, rfl⟩
            have qqw_621 : Y_616 = setRow (setRow (setRow (setRow X 15 w_494) 23 w_495) 15 w_621) 23 w_622 := by rw [h_615, ew_621, ew_622]
            have hW_623 : Wd G (setRow (setRow X 15 w_621) 23 w_622) H_617 := Wd.cast (((qqw_621).trans (congrArg (fun Z9 => setRow (Z9) 23 w_622) (sr_in (by decide) sr_out))).trans (congrArg (fun Z9 => Z9) sr_out)) hW_619
            have kn_624 : w_621 (8) = nI (0 + 1 + sb_dg m1 + 1) := by rw [ew_621]; exact pk_us
            refine lv_aload_n hx hb dX8_renderFurnace_64 rfl (lv_at hl_605 2 rfl) ?_
            refine lv_aload_n hx hb dX8_renderFurnace_65 rfl (lv_at hl_605 2 rfl) ?_
            refine gM_v C hW_623 (hwc hwX8) (mc qw_1481) dX8_renderFurnace_66 ?_
            refine lv_iload_n hx hb dX8_renderFurnace_69 rfl (lv_at hl_605 1 rfl) ?_
            refine lv_iload_n hx hb dX8_renderFurnace_70 rfl (lv_at hl_605 0 rfl) ?_
            refine lv_iadd hx hb dX8_renderFurnace_71 ?_
            refine g_top (y := nI ((9 + 6 * f_17) + 3)) (nI_add (9 + 6 * f_17) 3) ?_
            refine gm_vld C hW_623 ((9 + 6 * f_17) + 3) (nI_clamp (by omega)) (vp_in_nI (show (9 + 6 * f_17) + 3 < 128 by omega) (by decide)) dX8_renderFurnace_72 ?_
            refine g_top (y := X.1 16 ((9 + 6 * f_17) + 3)) (congrFun (rd_in (by decide) (rd_in (by decide) rfl)) _) ?_
            refine g_top (y := nI m3) em3 ?_
            refine g_callv (va_runV (As := [.int (nI m3)]) (rest := []) C.1 (cX8_writesNumber_ok l G (setRow (setRow X 15 w_621) 23 w_622) (0 + 1 + sb_dg m1 + 1) (show 0 + 1 + sb_dg m1 + 1 + 4 < 40 by omega) kn_624 m3 (show m3 < 10000 by omega)) (cwV 1 C.1.2.2.2.2 (gV qw_1867 qw_1869 qw_60 qw_81 qw_1870) rfl rfl rfl (by decide +kernel) ⟨Nat.le_of_ble_eq_true rfl, Nat.le_of_ble_eq_true rfl⟩) (g_rModel C hW_623 hS_620 [.int (nI m3)]) rfl rfl hl_605.1 rfl (lv_room (Nat.le_of_ble_eq_true rfl)) dX8_renderFurnace_73 ⟨Nat.zero_le _, Nat.zero_le _⟩) hS_620 (fun Y_626 H_627 locs_628 hW_629 hS_630 h_625 => ?_)
            replace h_625 : Y_626 = setRow (setRow (setRow (setRow X 15 w_621) 23 w_622) 15 (upd w_621 (8) (nI (0 + 1 + sb_dg m1 + 1 + sb_dg m3)))) 23 (wnR w_622 (0 + 1 + sb_dg m1 + 1) m3) := h_625
            obtain ⟨w_631, ew_631⟩ : ∃ Z9, Z9 = upd w_621 (8) (nI (0 + 1 + sb_dg m1 + 1 + sb_dg m3)) := ⟨_, rfl⟩
            obtain ⟨w_632, ew_632⟩ : ∃ Z9, Z9 = wnR w_622 (0 + 1 + sb_dg m1 + 1) m3 := ⟨_, rfl⟩
            have qqw_631 : Y_626 = setRow (setRow (setRow (setRow X 15 w_621) 23 w_622) 15 w_631) 23 w_632 := by rw [h_625, ew_631, ew_632]
            have hW_633 : Wd G (setRow (setRow X 15 w_631) 23 w_632) H_627 := Wd.cast (((qqw_631).trans (congrArg (fun Z9 => setRow (Z9) 23 w_632) (sr_in (by decide) sr_out))).trans (congrArg (fun Z9 => Z9) sr_out)) hW_629
            have kn_634 : w_631 (8) = nI (0 + 1 + sb_dg m1 + 1 + sb_dg m3) := by rw [ew_631]; exact pk_us
            refine lv_iinc (v := 4) (lv' := [(3, .int 4), (2, .int (nI (9 + 6 * f_17))), (0, .ref (ad G 723)), (1, .int (nI f_17))]) hx hb dX8_renderFurnace_76 hl_605 (k := 0) rfl (by decide) (by decide) rfl (fun ls_635 hl_636 => ?_)
            refine lv_goto (tgt := 37) hx hb dX8_renderFurnace_79 (by decide) ?_
            refine lv_iload_n hx hb dX8_renderFurnace_37 rfl (lv_at hl_636 0 rfl) ?_
            refine lv_iconst (v := 4) hx hb dX8_renderFurnace_38 (by decide) ?_
            refine lv_icmp_ge (tgt := 82) hx hb dX8_renderFurnace_39 (by decide) (fun _ => ?_) (fun h9 => absurd h9 (by decide))
            refine lv_aload_n hx hb dX8_renderFurnace_82 rfl (lv_at hl_636 2 rfl) ?_
            refine lv_bipush (v := 64) hx hb dX8_renderFurnace_83 (by decide) ?_
            refine g_callv (va_runV (As := [.int 64]) (rest := []) C.1 (cX8_writes_ok l G (setRow (setRow X 15 w_631) 23 w_632) (0 + 1 + sb_dg m1 + 1 + sb_dg m3) (show 0 + 1 + sb_dg m1 + 1 + sb_dg m3 < 40 by omega) kn_634 64) (cwV 1 C.1.2.2.2.2 (gV qw_1863 qw_1865 qw_59 qw_81 qw_1866) rfl rfl rfl (by decide +kernel) ⟨Nat.le_of_ble_eq_true rfl, Nat.le_of_ble_eq_true rfl⟩) (g_rModel C hW_633 hS_630 [.int 64]) rfl rfl hl_636.1 rfl (lv_room (Nat.le_of_ble_eq_true rfl)) dX8_renderFurnace_85 ⟨Nat.zero_le _, Nat.zero_le _⟩) hS_630 (fun Y_638 H_639 locs_640 hW_641 hS_642 h_637 => ?_)
            replace h_637 : Y_638 = setRow (setRow (setRow (setRow X 15 w_631) 23 w_632) 15 (upd w_631 (8) (nI (0 + 1 + sb_dg m1 + 1 + sb_dg m3 + 1)))) 23 (upd w_632 (0 + 1 + sb_dg m1 + 1 + sb_dg m3) 64) := h_637
            obtain ⟨w_643, ew_643⟩ : ∃ Z9, Z9 = upd w_631 (8) (nI (0 + 1 + sb_dg m1 + 1 + sb_dg m3 + 1)) := ⟨_, rfl⟩
            obtain ⟨w_644, ew_644⟩ : ∃ Z9, Z9 = upd w_632 (0 + 1 + sb_dg m1 + 1 + sb_dg m3) 64 := ⟨_, rfl⟩
            have qqw_643 : Y_638 = setRow (setRow (setRow (setRow X 15 w_631) 23 w_632) 15 w_643) 23 w_644 := by rw [h_637, ew_643, ew_644]
            have hW_645 : Wd G (setRow (setRow X 15 w_643) 23 w_644) H_639 := Wd.cast (((qqw_643).trans (congrArg (fun Z9 => setRow (Z9) 23 w_644) (sr_in (by decide) sr_out))).trans (congrArg (fun Z9 => Z9) sr_out)) hW_641
            have kn_646 : w_643 (8) = nI (0 + 1 + sb_dg m1 + 1 + sb_dg m3 + 1) := by rw [ew_643]; exact pk_us
            refine lv_aload_n hx hb dX8_renderFurnace_88 rfl (lv_at hl_636 2 rfl) ?_
            refine lv_aload_n hx hb dX8_renderFurnace_89 rfl (lv_at hl_636 2 rfl) ?_
            refine gM_v C hW_645 (hwc hwX8) (mc qw_1481) dX8_renderFurnace_90 ?_
            refine lv_iload_n hx hb dX8_renderFurnace_93 rfl (lv_at hl_636 1 rfl) ?_
            refine lv_iconst (v := 4) hx hb dX8_renderFurnace_94 (by decide) ?_
            refine lv_iadd hx hb dX8_renderFurnace_95 ?_
            refine g_top (y := nI ((9 + 6 * f_17) + 4)) (nI_add (9 + 6 * f_17) 4) ?_
            refine gm_vld C hW_645 ((9 + 6 * f_17) + 4) (nI_clamp (by omega)) (vp_in_nI (show (9 + 6 * f_17) + 4 < 128 by omega) (by decide)) dX8_renderFurnace_96 ?_
            refine g_top (y := X.1 16 ((9 + 6 * f_17) + 4)) (congrFun (rd_in (by decide) (rd_in (by decide) rfl)) _) ?_
            refine g_top (y := nI tt) em4 ?_
            refine g_callv (va_runV (As := [.int (nI tt)]) (rest := []) C.1 (cX8_writesNumber_ok l G (setRow (setRow X 15 w_643) 23 w_644) (0 + 1 + sb_dg m1 + 1 + sb_dg m3 + 1) (show 0 + 1 + sb_dg m1 + 1 + sb_dg m3 + 1 + 4 < 40 by omega) kn_646 tt (show tt < 10000 by omega)) (cwV 1 C.1.2.2.2.2 (gV qw_1867 qw_1869 qw_60 qw_81 qw_1870) rfl rfl rfl (by decide +kernel) ⟨Nat.le_of_ble_eq_true rfl, Nat.le_of_ble_eq_true rfl⟩) (g_rModel C hW_645 hS_642 [.int (nI tt)]) rfl rfl hl_636.1 rfl (lv_room (Nat.le_of_ble_eq_true rfl)) dX8_renderFurnace_97 ⟨Nat.zero_le _, Nat.zero_le _⟩) hS_642 (fun Y_648 H_649 locs_650 hW_651 hS_652 h_647 => ?_)
            replace h_647 : Y_648 = setRow (setRow (setRow (setRow X 15 w_643) 23 w_644) 15 (upd w_643 (8) (nI (0 + 1 + sb_dg m1 + 1 + sb_dg m3 + 1 + sb_dg tt)))) 23 (wnR w_644 (0 + 1 + sb_dg m1 + 1 + sb_dg m3 + 1) tt) := h_647
            obtain ⟨w_653, ew_653⟩ : ∃ Z9, Z9 = upd w_643 (8) (nI (0 + 1 + sb_dg m1 + 1 + sb_dg m3 + 1 + sb_dg tt)) := ⟨_, rfl⟩
            obtain ⟨w_654, ew_654⟩ : ∃ Z9, Z9 = wnR w_644 (0 + 1 + sb_dg m1 + 1 + sb_dg m3 + 1) tt := ⟨_, rfl⟩
            have qqw_653 : Y_648 = setRow (setRow (setRow (setRow X 15 w_643) 23 w_644) 15 w_653) 23 w_654 := by rw [h_647, ew_653, ew_654]
            have hW_655 : Wd G (setRow (setRow X 15 w_653) 23 w_654) H_649 := Wd.cast (((qqw_653).trans (congrArg (fun Z9 => setRow (Z9) 23 w_654) (sr_in (by decide) sr_out))).trans (congrArg (fun Z9 => Z9) sr_out)) hW_651
            have kn_656 : w_653 (8) = nI (0 + 1 + sb_dg m1 + 1 + sb_dg m3 + 1 + sb_dg tt) := by rw [ew_653]; exact pk_us
            refine lv_aload_n hx hb dX8_renderFurnace_100 rfl (lv_at hl_636 2 rfl) ?_
            refine gM_lineN C hW_655 (hwc hwX8) (mc qw_1495) dX8_renderFurnace_101 ?_
            refine g_top (y := w_653 (8)) (congrFun (rd_in (by decide) rd_out) _) ?_
            refine g_top (y := nI (0 + 1 + sb_dg m1 + 1 + sb_dg m3 + 1 + sb_dg tt)) kn_656 ?_
            exact g_iret C hr hlk hW_655 hS_652 dX8_renderFurnace_104 (by subst ew_654; subst ew_653; subst ew_644; subst ew_643; subst ew_632; subst ew_631; subst ew_622; subst ew_621; subst ew_495; subst ew_494; subst ew_485; subst ew_484; subst ew_39; subst ew_22; have e9 : rmS (X.1 16) (9 + 6 * f_17) (X.1 23) = (0 + 1 + sb_dg m1 + 1 + sb_dg m3 + 1 + sb_dg tt, _) := (by simp only [rmS, rmM, show X.1 16 (9 + 6 * f_17) = nI m0 from em0, em1, em2, em3, em4, clf (show m0 < 2 ^ 31 by omega), clf (show m1 < 2 ^ 31 by omega), clf (show m2 < 2 ^ 31 by omega), clf (show m3 < 2 ^ 31 by omega), clf (show tt < 2 ^ 31 by omega), eq_true b_45, b_469, eq_true b_500, b_606, if_true, if_false, Nat.zero_add]; first | done | rfl); exact ⟨by simp only [oM_renderFurnace, b_9, if_false, clf (show f_17 < 2 ^ 31 by omega), e9]; first | done | rfl, by simp only [oM_renderFurnace, b_9, if_false, clf (show f_17 < 2 ^ 31 by omega), e9, uu8]; first | done | rfl⟩)
          · have fb_606 : m3 = 0 := (nI_eq (a := m3) (b := 0) (by omega) (by omega)).mp b_606
            refine lv_goto (tgt := 76) hx hb dX8_renderFurnace_53 (by decide) ?_
            refine lv_iinc (v := 4) (lv' := [(3, .int 4), (2, .int (nI (9 + 6 * f_17))), (0, .ref (ad G 723)), (1, .int (nI f_17))]) hx hb dX8_renderFurnace_76 hl_605 (k := 0) rfl (by decide) (by decide) rfl (fun ls_657 hl_658 => ?_)
            refine lv_goto (tgt := 37) hx hb dX8_renderFurnace_79 (by decide) ?_
            refine lv_iload_n hx hb dX8_renderFurnace_37 rfl (lv_at hl_658 0 rfl) ?_
            refine lv_iconst (v := 4) hx hb dX8_renderFurnace_38 (by decide) ?_
            refine lv_icmp_ge (tgt := 82) hx hb dX8_renderFurnace_39 (by decide) (fun _ => ?_) (fun h9 => absurd h9 (by decide))
            refine lv_aload_n hx hb dX8_renderFurnace_82 rfl (lv_at hl_658 2 rfl) ?_
            refine lv_bipush (v := 64) hx hb dX8_renderFurnace_83 (by decide) ?_
            refine g_callv (va_runV (As := [.int 64]) (rest := []) C.1 (cX8_writes_ok l G (setRow (setRow X 15 w_494) 23 w_495) (0 + 1 + sb_dg m1) (show 0 + 1 + sb_dg m1 < 40 by omega) kn_497 64) (cwV 1 C.1.2.2.2.2 (gV qw_1863 qw_1865 qw_59 qw_81 qw_1866) rfl rfl rfl (by decide +kernel) ⟨Nat.le_of_ble_eq_true rfl, Nat.le_of_ble_eq_true rfl⟩) (g_rModel C hW_496 hS_493 [.int 64]) rfl rfl hl_658.1 rfl (lv_room (Nat.le_of_ble_eq_true rfl)) dX8_renderFurnace_85 ⟨Nat.zero_le _, Nat.zero_le _⟩) hS_493 (fun Y_660 H_661 locs_662 hW_663 hS_664 h_659 => ?_)
            replace h_659 : Y_660 = setRow (setRow (setRow (setRow X 15 w_494) 23 w_495) 15 (upd w_494 (8) (nI (0 + 1 + sb_dg m1 + 1)))) 23 (upd w_495 (0 + 1 + sb_dg m1) 64) := h_659
            obtain ⟨w_665, ew_665⟩ : ∃ Z9, Z9 = upd w_494 (8) (nI (0 + 1 + sb_dg m1 + 1)) := ⟨_, rfl⟩
            obtain ⟨w_666, ew_666⟩ : ∃ Z9, Z9 = upd w_495 (0 + 1 + sb_dg m1) 64 := ⟨_, rfl⟩
            have qqw_665 : Y_660 = setRow (setRow (setRow (setRow X 15 w_494) 23 w_495) 15 w_665) 23 w_666 := by rw [h_659, ew_665, ew_666]
            have hW_667 : Wd G (setRow (setRow X 15 w_665) 23 w_666) H_661 := Wd.cast (((qqw_665).trans (congrArg (fun Z9 => setRow (Z9) 23 w_666) (sr_in (by decide) sr_out))).trans (congrArg (fun Z9 => Z9) sr_out)) hW_663
            have kn_668 : w_665 (8) = nI (0 + 1 + sb_dg m1 + 1) := by rw [ew_665]; exact pk_us
            refine lv_aload_n hx hb dX8_renderFurnace_88 rfl (lv_at hl_658 2 rfl) ?_
            refine lv_aload_n hx hb dX8_renderFurnace_89 rfl (lv_at hl_658 2 rfl) ?_
            refine gM_v C hW_667 (hwc hwX8) (mc qw_1481) dX8_renderFurnace_90 ?_
            refine lv_iload_n hx hb dX8_renderFurnace_93 rfl (lv_at hl_658 1 rfl) ?_
            refine lv_iconst (v := 4) hx hb dX8_renderFurnace_94 (by decide) ?_
            refine lv_iadd hx hb dX8_renderFurnace_95 ?_
            refine g_top (y := nI ((9 + 6 * f_17) + 4)) (nI_add (9 + 6 * f_17) 4) ?_
            refine gm_vld C hW_667 ((9 + 6 * f_17) + 4) (nI_clamp (by omega)) (vp_in_nI (show (9 + 6 * f_17) + 4 < 128 by omega) (by decide)) dX8_renderFurnace_96 ?_
            refine g_top (y := X.1 16 ((9 + 6 * f_17) + 4)) (congrFun (rd_in (by decide) (rd_in (by decide) rfl)) _) ?_
            refine g_top (y := nI tt) em4 ?_
            refine g_callv (va_runV (As := [.int (nI tt)]) (rest := []) C.1 (cX8_writesNumber_ok l G (setRow (setRow X 15 w_665) 23 w_666) (0 + 1 + sb_dg m1 + 1) (show 0 + 1 + sb_dg m1 + 1 + 4 < 40 by omega) kn_668 tt (show tt < 10000 by omega)) (cwV 1 C.1.2.2.2.2 (gV qw_1867 qw_1869 qw_60 qw_81 qw_1870) rfl rfl rfl (by decide +kernel) ⟨Nat.le_of_ble_eq_true rfl, Nat.le_of_ble_eq_true rfl⟩) (g_rModel C hW_667 hS_664 [.int (nI tt)]) rfl rfl hl_658.1 rfl (lv_room (Nat.le_of_ble_eq_true rfl)) dX8_renderFurnace_97 ⟨Nat.zero_le _, Nat.zero_le _⟩) hS_664 (fun Y_670 H_671 locs_672 hW_673 hS_674 h_669 => ?_)
            replace h_669 : Y_670 = setRow (setRow (setRow (setRow X 15 w_665) 23 w_666) 15 (upd w_665 (8) (nI (0 + 1 + sb_dg m1 + 1 + sb_dg tt)))) 23 (wnR w_666 (0 + 1 + sb_dg m1 + 1) tt) := h_669
            obtain ⟨w_675, ew_675⟩ : ∃ Z9, Z9 = upd w_665 (8) (nI (0 + 1 + sb_dg m1 + 1 + sb_dg tt)) := ⟨_, rfl⟩
            obtain ⟨w_676, ew_676⟩ : ∃ Z9, Z9 = wnR w_666 (0 + 1 + sb_dg m1 + 1) tt := ⟨_, rfl⟩
            have qqw_675 : Y_670 = setRow (setRow (setRow (setRow X 15 w_665) 23 w_666) 15 w_675) 23 w_676 := by rw [h_669, ew_675, ew_676]
            have hW_677 : Wd G (setRow (setRow X 15 w_675) 23 w_676) H_671 := Wd.cast (((qqw_675).trans (congrArg (fun Z9 => setRow (Z9) 23 w_676) (sr_in (by decide) sr_out))).trans (congrArg (fun Z9 => Z9) sr_out)) hW_673
            have kn_678 : w_675 (8) = nI (0 + 1 + sb_dg m1 + 1 + sb_dg tt) := by rw [ew_675]; exact pk_us
            refine lv_aload_n hx hb dX8_renderFurnace_100 rfl (lv_at hl_658 2 rfl) ?_
            refine gM_lineN C hW_677 (hwc hwX8) (mc qw_1495) dX8_renderFurnace_101 ?_
            refine g_top (y := w_675 (8)) (congrFun (rd_in (by decide) rd_out) _) ?_
            refine g_top (y := nI (0 + 1 + sb_dg m1 + 1 + sb_dg tt)) kn_678 ?_
            exact g_iret C hr hlk hW_677 hS_674 dX8_renderFurnace_104 (by subst ew_676; subst ew_675; subst ew_666; subst ew_665; subst ew_495; subst ew_494; subst ew_485; subst ew_484; subst ew_39; subst ew_22; have e9 : rmS (X.1 16) (9 + 6 * f_17) (X.1 23) = (0 + 1 + sb_dg m1 + 1 + sb_dg tt, _) := (by simp only [rmS, rmM, show X.1 16 (9 + 6 * f_17) = nI m0 from em0, em1, em2, em3, em4, clf (show m0 < 2 ^ 31 by omega), clf (show m1 < 2 ^ 31 by omega), clf (show m2 < 2 ^ 31 by omega), clf (show m3 < 2 ^ 31 by omega), clf (show tt < 2 ^ 31 by omega), eq_true b_45, b_469, eq_true b_500, eq_true b_606, if_true, if_false, Nat.zero_add]; first | done | rfl); exact ⟨by simp only [oM_renderFurnace, b_9, if_false, clf (show f_17 < 2 ^ 31 by omega), e9]; first | done | rfl, by simp only [oM_renderFurnace, b_9, if_false, clf (show f_17 < 2 ^ 31 by omega), e9, uu8]; first | done | rfl⟩)
      · have fb_469 : m1 = 0 := (nI_eq (a := m1) (b := 0) (by omega) (by omega)).mp b_469
        refine lv_goto (tgt := 76) hx hb dX8_renderFurnace_53 (by decide) ?_
        refine lv_iinc (v := 2) (lv' := [(3, .int 2), (2, .int (nI (9 + 6 * f_17))), (0, .ref (ad G 723)), (1, .int (nI f_17))]) hx hb dX8_renderFurnace_76 hl_468 (k := 0) rfl (by decide) (by decide) rfl (fun ls_679 hl_680 => ?_)
        refine lv_goto (tgt := 37) hx hb dX8_renderFurnace_79 (by decide) ?_
        refine lv_iload_n hx hb dX8_renderFurnace_37 rfl (lv_at hl_680 0 rfl) ?_
        refine lv_iconst (v := 4) hx hb dX8_renderFurnace_38 (by decide) ?_
        refine lv_icmp_ge (tgt := 82) hx hb dX8_renderFurnace_39 (by decide) (fun h9 => absurd h9 (by decide)) (fun _ => ?_)
        refine lv_aload_n hx hb dX8_renderFurnace_42 rfl (lv_at hl_680 2 rfl) ?_
        refine gM_v C hW_42 (hwc hwX8) (mc qw_1481) dX8_renderFurnace_43 ?_
        refine lv_iload_n hx hb dX8_renderFurnace_46 rfl (lv_at hl_680 1 rfl) ?_
        refine lv_iload_n hx hb dX8_renderFurnace_47 rfl (lv_at hl_680 0 rfl) ?_
        refine lv_iadd hx hb dX8_renderFurnace_48 ?_
        refine g_top (y := nI ((9 + 6 * f_17) + 2)) (nI_add (9 + 6 * f_17) 2) ?_
        refine gm_vld C hW_42 ((9 + 6 * f_17) + 2) (nI_clamp (by omega)) (vp_in_nI (show (9 + 6 * f_17) + 2 < 128 by omega) (by decide)) dX8_renderFurnace_49 ?_
        refine g_top (y := X.1 16 ((9 + 6 * f_17) + 2)) (congrFun (rd_in (by decide) (rd_in (by decide) rfl)) _) ?_
        refine g_top (y := nI m2) em2 ?_
        refine lv_if_ne (tgt := 56) hx hb dX8_renderFurnace_50 (by decide) (fun b_681 => ?_) (fun b_681 => ?_)
        · have fb_681 : ¬ m2 = 0 := fun q9 => b_681 ((nI_eq (a := m2) (b := 0) (by omega) (by omega)).mpr q9)
          refine lv_aload_n hx hb dX8_renderFurnace_56 rfl (lv_at hl_680 2 rfl) ?_
          refine lv_iload_n hx hb dX8_renderFurnace_57 rfl (lv_at hl_680 0 rfl) ?_
          refine g_calli (va_runS (As := [.int 2]) (rest := [.ref (ad G 723)]) C.1 (cX8_letter_ok l G (setRow (setRow X 15 w_39) 23 (X.1 23)) 2) (va_cwS 1 C.1.2.2.2.2 (gS qw_1860 qw_1861 qw_81 qw_1862) rfl rfl rfl (by decide +kernel) ⟨Nat.le_of_ble_eq_true rfl, Nat.le_of_ble_eq_true rfl⟩) (g_pre C hW_42 hS_38 [.int 2]) rfl rfl hl_680.1 rfl (lv_room (Nat.le_of_ble_eq_true rfl)) dX8_renderFurnace_58 ⟨Nat.zero_le _, Nat.zero_le _⟩) hS_38 (fun r_683 Y_684 H_685 locs_686 hW_687 hS_688 h_682 => ?_)
          obtain ⟨h_682, hy_689⟩ := h_682
          replace hy_689 := hy_689.symm
          subst hy_689
          replace h_682 : r_683 = oM_letter 2 := h_682
          subst h_682
          refine g_callv (va_runV (As := [.int (oM_letter 2)]) (rest := []) C.1 (cX8_writes_ok l G (setRow (setRow X 15 w_39) 23 (X.1 23)) 0 (show 0 < 40 by omega) kn_41 (oM_letter 2)) (cwV 1 C.1.2.2.2.2 (gV qw_1863 qw_1865 qw_59 qw_81 qw_1866) rfl rfl rfl (by decide +kernel) ⟨Nat.le_of_ble_eq_true rfl, Nat.le_of_ble_eq_true rfl⟩) (g_rModel C hW_687 hS_688 [.int (oM_letter 2)]) rfl rfl hl_680.1 rfl (lv_room (Nat.le_of_ble_eq_true rfl)) dX8_renderFurnace_61 ⟨Nat.zero_le _, Nat.zero_le _⟩) hS_688 (fun Y_691 H_692 locs_693 hW_694 hS_695 h_690 => ?_)
          replace h_690 : Y_691 = setRow (setRow (setRow (setRow X 15 w_39) 23 (X.1 23)) 15 (upd w_39 (8) (nI (0 + 1)))) 23 (upd (X.1 23) (0) (oM_letter 2)) := h_690
          obtain ⟨w_696, ew_696⟩ : ∃ Z9, Z9 = upd w_39 (8) (nI (0 + 1)) := ⟨_, rfl⟩
          obtain ⟨w_697, ew_697⟩ : ∃ Z9, Z9 = upd (X.1 23) (0) (oM_letter 2) := ⟨_, rfl⟩
          have qqw_696 : Y_691 = setRow (setRow (setRow (setRow X 15 w_39) 23 (X.1 23)) 15 w_696) 23 w_697 := by rw [h_690, ew_696, ew_697]
          have hW_698 : Wd G (setRow (setRow X 15 w_696) 23 w_697) H_692 := Wd.cast (((qqw_696).trans (congrArg (fun Z9 => setRow (Z9) 23 w_697) (sr_in (by decide) sr_out))).trans (congrArg (fun Z9 => Z9) sr_out)) hW_694
          have kn_699 : w_696 (8) = nI (0 + 1) := by rw [ew_696]; exact pk_us
          refine lv_aload_n hx hb dX8_renderFurnace_64 rfl (lv_at hl_680 2 rfl) ?_
          refine lv_aload_n hx hb dX8_renderFurnace_65 rfl (lv_at hl_680 2 rfl) ?_
          refine gM_v C hW_698 (hwc hwX8) (mc qw_1481) dX8_renderFurnace_66 ?_
          refine lv_iload_n hx hb dX8_renderFurnace_69 rfl (lv_at hl_680 1 rfl) ?_
          refine lv_iload_n hx hb dX8_renderFurnace_70 rfl (lv_at hl_680 0 rfl) ?_
          refine lv_iadd hx hb dX8_renderFurnace_71 ?_
          refine g_top (y := nI ((9 + 6 * f_17) + 2)) (nI_add (9 + 6 * f_17) 2) ?_
          refine gm_vld C hW_698 ((9 + 6 * f_17) + 2) (nI_clamp (by omega)) (vp_in_nI (show (9 + 6 * f_17) + 2 < 128 by omega) (by decide)) dX8_renderFurnace_72 ?_
          refine g_top (y := X.1 16 ((9 + 6 * f_17) + 2)) (congrFun (rd_in (by decide) (rd_in (by decide) rfl)) _) ?_
          refine g_top (y := nI m2) em2 ?_
          refine g_callv (va_runV (As := [.int (nI m2)]) (rest := []) C.1 (cX8_writesNumber_ok l G (setRow (setRow X 15 w_696) 23 w_697) (0 + 1) (show 0 + 1 + 4 < 40 by omega) kn_699 m2 (show m2 < 10000 by omega)) (cwV 1 C.1.2.2.2.2 (gV qw_1867 qw_1869 qw_60 qw_81 qw_1870) rfl rfl rfl (by decide +kernel) ⟨Nat.le_of_ble_eq_true rfl, Nat.le_of_ble_eq_true rfl⟩) (g_rModel C hW_698 hS_695 [.int (nI m2)]) rfl rfl hl_680.1 rfl (lv_room (Nat.le_of_ble_eq_true rfl)) dX8_renderFurnace_73 ⟨Nat.zero_le _, Nat.zero_le _⟩) hS_695 (fun Y_701 H_702 locs_703 hW_704 hS_705 h_700 => ?_)
          replace h_700 : Y_701 = setRow (setRow (setRow (setRow X 15 w_696) 23 w_697) 15 (upd w_696 (8) (nI (0 + 1 + sb_dg m2)))) 23 (wnR w_697 (0 + 1) m2) := h_700
          obtain ⟨w_706, ew_706⟩ : ∃ Z9, Z9 = upd w_696 (8) (nI (0 + 1 + sb_dg m2)) := ⟨_, rfl⟩
          obtain ⟨w_707, ew_707⟩ : ∃ Z9, Z9 = wnR w_697 (0 + 1) m2 := ⟨_, rfl⟩
          have qqw_706 : Y_701 = setRow (setRow (setRow (setRow X 15 w_696) 23 w_697) 15 w_706) 23 w_707 := by rw [h_700, ew_706, ew_707]
          have hW_708 : Wd G (setRow (setRow X 15 w_706) 23 w_707) H_702 := Wd.cast (((qqw_706).trans (congrArg (fun Z9 => setRow (Z9) 23 w_707) (sr_in (by decide) sr_out))).trans (congrArg (fun Z9 => Z9) sr_out)) hW_704
          have kn_709 : w_706 (8) = nI (0 + 1 + sb_dg m2) := by rw [ew_706]; exact pk_us
          refine lv_iinc (v := 3) (lv' := [(3, .int 3), (2, .int (nI (9 + 6 * f_17))), (0, .ref (ad G 723)), (1, .int (nI f_17))]) hx hb dX8_renderFurnace_76 hl_680 (k := 0) rfl (by decide) (by decide) rfl (fun ls_710 hl_711 => ?_)
          refine lv_goto (tgt := 37) hx hb dX8_renderFurnace_79 (by decide) ?_
          refine lv_iload_n hx hb dX8_renderFurnace_37 rfl (lv_at hl_711 0 rfl) ?_
          refine lv_iconst (v := 4) hx hb dX8_renderFurnace_38 (by decide) ?_
          refine lv_icmp_ge (tgt := 82) hx hb dX8_renderFurnace_39 (by decide) (fun h9 => absurd h9 (by decide)) (fun _ => ?_)
          refine lv_aload_n hx hb dX8_renderFurnace_42 rfl (lv_at hl_711 2 rfl) ?_
          refine gM_v C hW_708 (hwc hwX8) (mc qw_1481) dX8_renderFurnace_43 ?_
          refine lv_iload_n hx hb dX8_renderFurnace_46 rfl (lv_at hl_711 1 rfl) ?_
          refine lv_iload_n hx hb dX8_renderFurnace_47 rfl (lv_at hl_711 0 rfl) ?_
          refine lv_iadd hx hb dX8_renderFurnace_48 ?_
          refine g_top (y := nI ((9 + 6 * f_17) + 3)) (nI_add (9 + 6 * f_17) 3) ?_
          refine gm_vld C hW_708 ((9 + 6 * f_17) + 3) (nI_clamp (by omega)) (vp_in_nI (show (9 + 6 * f_17) + 3 < 128 by omega) (by decide)) dX8_renderFurnace_49 ?_
          refine g_top (y := X.1 16 ((9 + 6 * f_17) + 3)) (congrFun (rd_in (by decide) (rd_in (by decide) rfl)) _) ?_
          refine g_top (y := nI m3) em3 ?_
          refine lv_if_ne (tgt := 56) hx hb dX8_renderFurnace_50 (by decide) (fun b_712 => ?_) (fun b_712 => ?_)
          · have fb_712 : ¬ m3 = 0 := fun q9 => b_712 ((nI_eq (a := m3) (b := 0) (by omega) (by omega)).mpr q9)
            refine lv_aload_n hx hb dX8_renderFurnace_56 rfl (lv_at hl_711 2 rfl) ?_
            refine lv_iload_n hx hb dX8_renderFurnace_57 rfl (lv_at hl_711 0 rfl) ?_
            refine g_calli (va_runS (As := [.int 3]) (rest := [.ref (ad G 723)]) C.1 (cX8_letter_ok l G (setRow (setRow X 15 w_706) 23 w_707) 3) (va_cwS 1 C.1.2.2.2.2 (gS qw_1860 qw_1861 qw_81 qw_1862) rfl rfl rfl (by decide +kernel) ⟨Nat.le_of_ble_eq_true rfl, Nat.le_of_ble_eq_true rfl⟩) (g_pre C hW_708 hS_705 [.int 3]) rfl rfl hl_711.1 rfl (lv_room (Nat.le_of_ble_eq_true rfl)) dX8_renderFurnace_58 ⟨Nat.zero_le _, Nat.zero_le _⟩) hS_705 (fun r_714 Y_715 H_716 locs_717 hW_718 hS_719 h_713 => ?_)
            obtain ⟨h_713, hy_720⟩ := h_713
            replace hy_720 := hy_720.symm
            subst hy_720
            replace h_713 : r_714 = oM_letter 3 := h_713
            subst h_713
            refine g_callv (va_runV (As := [.int (oM_letter 3)]) (rest := []) C.1 (cX8_writes_ok l G (setRow (setRow X 15 w_706) 23 w_707) (0 + 1 + sb_dg m2) (show 0 + 1 + sb_dg m2 < 40 by omega) kn_709 (oM_letter 3)) (cwV 1 C.1.2.2.2.2 (gV qw_1863 qw_1865 qw_59 qw_81 qw_1866) rfl rfl rfl (by decide +kernel) ⟨Nat.le_of_ble_eq_true rfl, Nat.le_of_ble_eq_true rfl⟩) (g_rModel C hW_718 hS_719 [.int (oM_letter 3)]) rfl rfl hl_711.1 rfl (lv_room (Nat.le_of_ble_eq_true rfl)) dX8_renderFurnace_61 ⟨Nat.zero_le _, Nat.zero_le _⟩) hS_719 (fun Y_722 H_723 locs_724 hW_725 hS_726 h_721 => ?_)
            replace h_721 : Y_722 = setRow (setRow (setRow (setRow X 15 w_706) 23 w_707) 15 (upd w_706 (8) (nI (0 + 1 + sb_dg m2 + 1)))) 23 (upd w_707 (0 + 1 + sb_dg m2) (oM_letter 3)) := h_721
            obtain ⟨w_727, ew_727⟩ : ∃ Z9, Z9 = upd w_706 (8) (nI (0 + 1 + sb_dg m2 + 1)) := ⟨_, rfl⟩
            obtain ⟨w_728, ew_728⟩ : ∃ Z9, Z9 = upd w_707 (0 + 1 + sb_dg m2) (oM_letter 3) := ⟨_, rfl⟩
            have qqw_727 : Y_722 = setRow (setRow (setRow (setRow X 15 w_706) 23 w_707) 15 w_727) 23 w_728 := by rw [h_721, ew_727, ew_728]
            have hW_729 : Wd G (setRow (setRow X 15 w_727) 23 w_728) H_723 := Wd.cast (((qqw_727).trans (congrArg (fun Z9 => setRow (Z9) 23 w_728) (sr_in (by decide) sr_out))).trans (congrArg (fun Z9 => Z9) sr_out)) hW_725
            have kn_730 : w_727 (8) = nI (0 + 1 + sb_dg m2 + 1) := by rw [ew_727]; exact pk_us
            refine lv_aload_n hx hb dX8_renderFurnace_64 rfl (lv_at hl_711 2 rfl) ?_
            refine lv_aload_n hx hb dX8_renderFurnace_65 rfl (lv_at hl_711 2 rfl) ?_
            refine gM_v C hW_729 (hwc hwX8) (mc qw_1481) dX8_renderFurnace_66 ?_
            refine lv_iload_n hx hb dX8_renderFurnace_69 rfl (lv_at hl_711 1 rfl) ?_
            refine lv_iload_n hx hb dX8_renderFurnace_70 rfl (lv_at hl_711 0 rfl) ?_
            refine lv_iadd hx hb dX8_renderFurnace_71 ?_
            refine g_top (y := nI ((9 + 6 * f_17) + 3)) (nI_add (9 + 6 * f_17) 3) ?_
            refine gm_vld C hW_729 ((9 + 6 * f_17) + 3) (nI_clamp (by omega)) (vp_in_nI (show (9 + 6 * f_17) + 3 < 128 by omega) (by decide)) dX8_renderFurnace_72 ?_
            refine g_top (y := X.1 16 ((9 + 6 * f_17) + 3)) (congrFun (rd_in (by decide) (rd_in (by decide) rfl)) _) ?_
            refine g_top (y := nI m3) em3 ?_
            refine g_callv (va_runV (As := [.int (nI m3)]) (rest := []) C.1 (cX8_writesNumber_ok l G (setRow (setRow X 15 w_727) 23 w_728) (0 + 1 + sb_dg m2 + 1) (show 0 + 1 + sb_dg m2 + 1 + 4 < 40 by omega) kn_730 m3 (show m3 < 10000 by omega)) (cwV 1 C.1.2.2.2.2 (gV qw_1867 qw_1869 qw_60 qw_81 qw_1870) rfl rfl rfl (by decide +kernel) ⟨Nat.le_of_ble_eq_true rfl, Nat.le_of_ble_eq_true rfl⟩) (g_rModel C hW_729 hS_726 [.int (nI m3)]) rfl rfl hl_711.1 rfl (lv_room (Nat.le_of_ble_eq_true rfl)) dX8_renderFurnace_73 ⟨Nat.zero_le _, Nat.zero_le _⟩) hS_726 (fun Y_732 H_733 locs_734 hW_735 hS_736 h_731 => ?_)
            replace h_731 : Y_732 = setRow (setRow (setRow (setRow X 15 w_727) 23 w_728) 15 (upd w_727 (8) (nI (0 + 1 + sb_dg m2 + 1 + sb_dg m3)))) 23 (wnR w_728 (0 + 1 + sb_dg m2 + 1) m3) := h_731
            obtain ⟨w_737, ew_737⟩ : ∃ Z9, Z9 = upd w_727 (8) (nI (0 + 1 + sb_dg m2 + 1 + sb_dg m3)) := ⟨_, rfl⟩
            obtain ⟨w_738, ew_738⟩ : ∃ Z9, Z9 = wnR w_728 (0 + 1 + sb_dg m2 + 1) m3 := ⟨_, rfl⟩
            have qqw_737 : Y_732 = setRow (setRow (setRow (setRow X 15 w_727) 23 w_728) 15 w_737) 23 w_738 := by rw [h_731, ew_737, ew_738]
            have hW_739 : Wd G (setRow (setRow X 15 w_737) 23 w_738) H_733 := Wd.cast (((qqw_737).trans (congrArg (fun Z9 => setRow (Z9) 23 w_738) (sr_in (by decide) sr_out))).trans (congrArg (fun Z9 => Z9) sr_out)) hW_735
            have kn_740 : w_737 (8) = nI (0 + 1 + sb_dg m2 + 1 + sb_dg m3) := by rw [ew_737]; exact pk_us
            refine lv_iinc (v := 4) (lv' := [(3, .int 4), (2, .int (nI (9 + 6 * f_17))), (0, .ref (ad G 723)), (1, .int (nI f_17))]) hx hb dX8_renderFurnace_76 hl_711 (k := 0) rfl (by decide) (by decide) rfl (fun ls_741 hl_742 => ?_)
            refine lv_goto (tgt := 37) hx hb dX8_renderFurnace_79 (by decide) ?_
            refine lv_iload_n hx hb dX8_renderFurnace_37 rfl (lv_at hl_742 0 rfl) ?_
            refine lv_iconst (v := 4) hx hb dX8_renderFurnace_38 (by decide) ?_
            refine lv_icmp_ge (tgt := 82) hx hb dX8_renderFurnace_39 (by decide) (fun _ => ?_) (fun h9 => absurd h9 (by decide))
            refine lv_aload_n hx hb dX8_renderFurnace_82 rfl (lv_at hl_742 2 rfl) ?_
            refine lv_bipush (v := 64) hx hb dX8_renderFurnace_83 (by decide) ?_
            refine g_callv (va_runV (As := [.int 64]) (rest := []) C.1 (cX8_writes_ok l G (setRow (setRow X 15 w_737) 23 w_738) (0 + 1 + sb_dg m2 + 1 + sb_dg m3) (show 0 + 1 + sb_dg m2 + 1 + sb_dg m3 < 40 by omega) kn_740 64) (cwV 1 C.1.2.2.2.2 (gV qw_1863 qw_1865 qw_59 qw_81 qw_1866) rfl rfl rfl (by decide +kernel) ⟨Nat.le_of_ble_eq_true rfl, Nat.le_of_ble_eq_true rfl⟩) (g_rModel C hW_739 hS_736 [.int 64]) rfl rfl hl_742.1 rfl (lv_room (Nat.le_of_ble_eq_true rfl)) dX8_renderFurnace_85 ⟨Nat.zero_le _, Nat.zero_le _⟩) hS_736 (fun Y_744 H_745 locs_746 hW_747 hS_748 h_743 => ?_)
            replace h_743 : Y_744 = setRow (setRow (setRow (setRow X 15 w_737) 23 w_738) 15 (upd w_737 (8) (nI (0 + 1 + sb_dg m2 + 1 + sb_dg m3 + 1)))) 23 (upd w_738 (0 + 1 + sb_dg m2 + 1 + sb_dg m3) 64) := h_743
            obtain ⟨w_749, ew_749⟩ : ∃ Z9, Z9 = upd w_737 (8) (nI (0 + 1 + sb_dg m2 + 1 + sb_dg m3 + 1)) := ⟨_, rfl⟩
            obtain ⟨w_750, ew_750⟩ : ∃ Z9, Z9 = upd w_738 (0 + 1 + sb_dg m2 + 1 + sb_dg m3) 64 := ⟨_, rfl⟩
            have qqw_749 : Y_744 = setRow (setRow (setRow (setRow X 15 w_737) 23 w_738) 15 w_749) 23 w_750 := by rw [h_743, ew_749, ew_750]
            have hW_751 : Wd G (setRow (setRow X 15 w_749) 23 w_750) H_745 := Wd.cast (((qqw_749).trans (congrArg (fun Z9 => setRow (Z9) 23 w_750) (sr_in (by decide) sr_out))).trans (congrArg (fun Z9 => Z9) sr_out)) hW_747
            have kn_752 : w_749 (8) = nI (0 + 1 + sb_dg m2 + 1 + sb_dg m3 + 1) := by rw [ew_749]; exact pk_us
            refine lv_aload_n hx hb dX8_renderFurnace_88 rfl (lv_at hl_742 2 rfl) ?_
            refine lv_aload_n hx hb dX8_renderFurnace_89 rfl (lv_at hl_742 2 rfl) ?_
            refine gM_v C hW_751 (hwc hwX8) (mc qw_1481) dX8_renderFurnace_90 ?_
            refine lv_iload_n hx hb dX8_renderFurnace_93 rfl (lv_at hl_742 1 rfl) ?_
            refine lv_iconst (v := 4) hx hb dX8_renderFurnace_94 (by decide) ?_
            refine lv_iadd hx hb dX8_renderFurnace_95 ?_
            refine g_top (y := nI ((9 + 6 * f_17) + 4)) (nI_add (9 + 6 * f_17) 4) ?_
            refine gm_vld C hW_751 ((9 + 6 * f_17) + 4) (nI_clamp (by omega)) (vp_in_nI (show (9 + 6 * f_17) + 4 < 128 by omega) (by decide)) dX8_renderFurnace_96 ?_
            refine g_top (y := X.1 16 ((9 + 6 * f_17) + 4)) (congrFun (rd_in (by decide) (rd_in (by decide) rfl)) _) ?_
            refine g_top (y := nI tt) em4 ?_
            refine g_callv (va_runV (As := [.int (nI tt)]) (rest := []) C.1 (cX8_writesNumber_ok l G (setRow (setRow X 15 w_749) 23 w_750) (0 + 1 + sb_dg m2 + 1 + sb_dg m3 + 1) (show 0 + 1 + sb_dg m2 + 1 + sb_dg m3 + 1 + 4 < 40 by omega) kn_752 tt (show tt < 10000 by omega)) (cwV 1 C.1.2.2.2.2 (gV qw_1867 qw_1869 qw_60 qw_81 qw_1870) rfl rfl rfl (by decide +kernel) ⟨Nat.le_of_ble_eq_true rfl, Nat.le_of_ble_eq_true rfl⟩) (g_rModel C hW_751 hS_748 [.int (nI tt)]) rfl rfl hl_742.1 rfl (lv_room (Nat.le_of_ble_eq_true rfl)) dX8_renderFurnace_97 ⟨Nat.zero_le _, Nat.zero_le _⟩) hS_748 (fun Y_754 H_755 locs_756 hW_757 hS_758 h_753 => ?_)
            replace h_753 : Y_754 = setRow (setRow (setRow (setRow X 15 w_749) 23 w_750) 15 (upd w_749 (8) (nI (0 + 1 + sb_dg m2 + 1 + sb_dg m3 + 1 + sb_dg tt)))) 23 (wnR w_750 (0 + 1 + sb_dg m2 + 1 + sb_dg m3 + 1) tt) := h_753
            obtain ⟨w_759, ew_759⟩ : ∃ Z9, Z9 = upd w_749 (8) (nI (0 + 1 + sb_dg m2 + 1 + sb_dg m3 + 1 + sb_dg tt)) := ⟨_, rfl⟩
            obtain ⟨w_760, ew_760⟩ : ∃ Z9, Z9 = wnR w_750 (0 + 1 + sb_dg m2 + 1 + sb_dg m3 + 1) tt := ⟨_, rfl⟩
            have qqw_759 : Y_754 = setRow (setRow (setRow (setRow X 15 w_749) 23 w_750) 15 w_759) 23 w_760 := by rw [h_753, ew_759, ew_760]
            have hW_761 : Wd G (setRow (setRow X 15 w_759) 23 w_760) H_755 := Wd.cast (((qqw_759).trans (congrArg (fun Z9 => setRow (Z9) 23 w_760) (sr_in (by decide) sr_out))).trans (congrArg (fun Z9 => Z9) sr_out)) hW_757
            have kn_762 : w_759 (8) = nI (0 + 1 + sb_dg m2 + 1 + sb_dg m3 + 1 + sb_dg tt) := by rw [ew_759]; exact pk_us
            refine lv_aload_n hx hb dX8_renderFurnace_100 rfl (lv_at hl_742 2 rfl) ?_
            refine gM_lineN C hW_761 (hwc hwX8) (mc qw_1495) dX8_renderFurnace_101 ?_
            refine g_top (y := w_759 (8)) (congrFun (rd_in (by decide) rd_out) _) ?_
            refine g_top (y := nI (0 + 1 + sb_dg m2 + 1 + sb_dg m3 + 1 + sb_dg tt)) kn_762 ?_
            exact g_iret C hr hlk hW_761 hS_758 dX8_renderFurnace_104 (by subst ew_760; subst ew_759; subst ew_750; subst ew_749; subst ew_738; subst ew_737; subst ew_728; subst ew_727; subst ew_707; subst ew_706; subst ew_697; subst ew_696; subst ew_39; subst ew_22; have e9 : rmS (X.1 16) (9 + 6 * f_17) (X.1 23) = (0 + 1 + sb_dg m2 + 1 + sb_dg m3 + 1 + sb_dg tt, _) := (by simp only [rmS, rmM, show X.1 16 (9 + 6 * f_17) = nI m0 from em0, em1, em2, em3, em4, clf (show m0 < 2 ^ 31 by omega), clf (show m1 < 2 ^ 31 by omega), clf (show m2 < 2 ^ 31 by omega), clf (show m3 < 2 ^ 31 by omega), clf (show tt < 2 ^ 31 by omega), eq_true b_45, eq_true b_469, b_681, b_712, if_true, if_false, Nat.zero_add]; first | done | rfl); exact ⟨by simp only [oM_renderFurnace, b_9, if_false, clf (show f_17 < 2 ^ 31 by omega), e9]; first | done | rfl, by simp only [oM_renderFurnace, b_9, if_false, clf (show f_17 < 2 ^ 31 by omega), e9, uu8]; first | done | rfl⟩)
          · have fb_712 : m3 = 0 := (nI_eq (a := m3) (b := 0) (by omega) (by omega)).mp b_712
            refine lv_goto (tgt := 76) hx hb dX8_renderFurnace_53 (by decide) ?_
            refine lv_iinc (v := 4) (lv' := [(3, .int 4), (2, .int (nI (9 + 6 * f_17))), (0, .ref (ad G 723)), (1, .int (nI f_17))]) hx hb dX8_renderFurnace_76 hl_711 (k := 0) rfl (by decide) (by decide) rfl (fun ls_763 hl_764 => ?_)
            refine lv_goto (tgt := 37) hx hb dX8_renderFurnace_79 (by decide) ?_
            refine lv_iload_n hx hb dX8_renderFurnace_37 rfl (lv_at hl_764 0 rfl) ?_
            refine lv_iconst (v := 4) hx hb dX8_renderFurnace_38 (by decide) ?_
            refine lv_icmp_ge (tgt := 82) hx hb dX8_renderFurnace_39 (by decide) (fun _ => ?_) (fun h9 => absurd h9 (by decide))
            refine lv_aload_n hx hb dX8_renderFurnace_82 rfl (lv_at hl_764 2 rfl) ?_
            refine lv_bipush (v := 64) hx hb dX8_renderFurnace_83 (by decide) ?_
            refine g_callv (va_runV (As := [.int 64]) (rest := []) C.1 (cX8_writes_ok l G (setRow (setRow X 15 w_706) 23 w_707) (0 + 1 + sb_dg m2) (show 0 + 1 + sb_dg m2 < 40 by omega) kn_709 64) (cwV 1 C.1.2.2.2.2 (gV qw_1863 qw_1865 qw_59 qw_81 qw_1866) rfl rfl rfl (by decide +kernel) ⟨Nat.le_of_ble_eq_true rfl, Nat.le_of_ble_eq_true rfl⟩) (g_rModel C hW_708 hS_705 [.int 64]) rfl rfl hl_764.1 rfl (lv_room (Nat.le_of_ble_eq_true rfl)) dX8_renderFurnace_85 ⟨Nat.zero_le _, Nat.zero_le _⟩) hS_705 (fun Y_766 H_767 locs_768 hW_769 hS_770 h_765 => ?_)
            replace h_765 : Y_766 = setRow (setRow (setRow (setRow X 15 w_706) 23 w_707) 15 (upd w_706 (8) (nI (0 + 1 + sb_dg m2 + 1)))) 23 (upd w_707 (0 + 1 + sb_dg m2) 64) := h_765
            obtain ⟨w_771, ew_771⟩ : ∃ Z9, Z9 = upd w_706 (8) (nI (0 + 1 + sb_dg m2 + 1)) := ⟨_, rfl⟩
            obtain ⟨w_772, ew_772⟩ : ∃ Z9, Z9 = upd w_707 (0 + 1 + sb_dg m2) 64 := ⟨_, rfl⟩
            have qqw_771 : Y_766 = setRow (setRow (setRow (setRow X 15 w_706) 23 w_707) 15 w_771) 23 w_772 := by rw [h_765, ew_771, ew_772]
            have hW_773 : Wd G (setRow (setRow X 15 w_771) 23 w_772) H_767 := Wd.cast (((qqw_771).trans (congrArg (fun Z9 => setRow (Z9) 23 w_772) (sr_in (by decide) sr_out))).trans (congrArg (fun Z9 => Z9) sr_out)) hW_769
            have kn_774 : w_771 (8) = nI (0 + 1 + sb_dg m2 + 1) := by rw [ew_771]; exact pk_us
            refine lv_aload_n hx hb dX8_renderFurnace_88 rfl (lv_at hl_764 2 rfl) ?_
            refine lv_aload_n hx hb dX8_renderFurnace_89 rfl (lv_at hl_764 2 rfl) ?_
            refine gM_v C hW_773 (hwc hwX8) (mc qw_1481) dX8_renderFurnace_90 ?_
            refine lv_iload_n hx hb dX8_renderFurnace_93 rfl (lv_at hl_764 1 rfl) ?_
            refine lv_iconst (v := 4) hx hb dX8_renderFurnace_94 (by decide) ?_
            refine lv_iadd hx hb dX8_renderFurnace_95 ?_
            refine g_top (y := nI ((9 + 6 * f_17) + 4)) (nI_add (9 + 6 * f_17) 4) ?_
            refine gm_vld C hW_773 ((9 + 6 * f_17) + 4) (nI_clamp (by omega)) (vp_in_nI (show (9 + 6 * f_17) + 4 < 128 by omega) (by decide)) dX8_renderFurnace_96 ?_
            refine g_top (y := X.1 16 ((9 + 6 * f_17) + 4)) (congrFun (rd_in (by decide) (rd_in (by decide) rfl)) _) ?_
            refine g_top (y := nI tt) em4 ?_
            refine g_callv (va_runV (As := [.int (nI tt)]) (rest := []) C.1 (cX8_writesNumber_ok l G (setRow (setRow X 15 w_771) 23 w_772) (0 + 1 + sb_dg m2 + 1) (show 0 + 1 + sb_dg m2 + 1 + 4 < 40 by omega) kn_774 tt (show tt < 10000 by omega)) (cwV 1 C.1.2.2.2.2 (gV qw_1867 qw_1869 qw_60 qw_81 qw_1870) rfl rfl rfl (by decide +kernel) ⟨Nat.le_of_ble_eq_true rfl, Nat.le_of_ble_eq_true rfl⟩) (g_rModel C hW_773 hS_770 [.int (nI tt)]) rfl rfl hl_764.1 rfl (lv_room (Nat.le_of_ble_eq_true rfl)) dX8_renderFurnace_97 ⟨Nat.zero_le _, Nat.zero_le _⟩) hS_770 (fun Y_776 H_777 locs_778 hW_779 hS_780 h_775 => ?_)
            replace h_775 : Y_776 = setRow (setRow (setRow (setRow X 15 w_771) 23 w_772) 15 (upd w_771 (8) (nI (0 + 1 + sb_dg m2 + 1 + sb_dg tt)))) 23 (wnR w_772 (0 + 1 + sb_dg m2 + 1) tt) := h_775
            obtain ⟨w_781, ew_781⟩ : ∃ Z9, Z9 = upd w_771 (8) (nI (0 + 1 + sb_dg m2 + 1 + sb_dg tt)) := ⟨_, rfl⟩
            obtain ⟨w_782, ew_782⟩ : ∃ Z9, Z9 = wnR w_772 (0 + 1 + sb_dg m2 + 1) tt := ⟨_, rfl⟩
            have qqw_781 : Y_776 = setRow (setRow (setRow (setRow X 15 w_771) 23 w_772) 15 w_781) 23 w_782 := by rw [h_775, ew_781, ew_782]
            have hW_783 : Wd G (setRow (setRow X 15 w_781) 23 w_782) H_777 := Wd.cast (((qqw_781).trans (congrArg (fun Z9 => setRow (Z9) 23 w_782) (sr_in (by decide) sr_out))).trans (congrArg (fun Z9 => Z9) sr_out)) hW_779
            have kn_784 : w_781 (8) = nI (0 + 1 + sb_dg m2 + 1 + sb_dg tt) := by rw [ew_781]; exact pk_us
            refine lv_aload_n hx hb dX8_renderFurnace_100 rfl (lv_at hl_764 2 rfl) ?_
            refine gM_lineN C hW_783 (hwc hwX8) (mc qw_1495) dX8_renderFurnace_101 ?_
            refine g_top (y := w_781 (8)) (congrFun (rd_in (by decide) rd_out) _) ?_
            refine g_top (y := nI (0 + 1 + sb_dg m2 + 1 + sb_dg tt)) kn_784 ?_
            exact g_iret C hr hlk hW_783 hS_780 dX8_renderFurnace_104 (by subst ew_782; subst ew_781; subst ew_772; subst ew_771; subst ew_707; subst ew_706; subst ew_697; subst ew_696; subst ew_39; subst ew_22; have e9 : rmS (X.1 16) (9 + 6 * f_17) (X.1 23) = (0 + 1 + sb_dg m2 + 1 + sb_dg tt, _) := (by simp only [rmS, rmM, show X.1 16 (9 + 6 * f_17) = nI m0 from em0, em1, em2, em3, em4, clf (show m0 < 2 ^ 31 by omega), clf (show m1 < 2 ^ 31 by omega), clf (show m2 < 2 ^ 31 by omega), clf (show m3 < 2 ^ 31 by omega), clf (show tt < 2 ^ 31 by omega), eq_true b_45, eq_true b_469, b_681, eq_true b_712, if_true, if_false, Nat.zero_add]; first | done | rfl); exact ⟨by simp only [oM_renderFurnace, b_9, if_false, clf (show f_17 < 2 ^ 31 by omega), e9]; first | done | rfl, by simp only [oM_renderFurnace, b_9, if_false, clf (show f_17 < 2 ^ 31 by omega), e9, uu8]; first | done | rfl⟩)
        · have fb_681 : m2 = 0 := (nI_eq (a := m2) (b := 0) (by omega) (by omega)).mp b_681
          refine lv_goto (tgt := 76) hx hb dX8_renderFurnace_53 (by decide) ?_
          refine lv_iinc (v := 3) (lv' := [(3, .int 3), (2, .int (nI (9 + 6 * f_17))), (0, .ref (ad G 723)), (1, .int (nI f_17))]) hx hb dX8_renderFurnace_76 hl_680 (k := 0) rfl (by decide) (by decide) rfl (fun ls_785 hl_786 => ?_)
          refine lv_goto (tgt := 37) hx hb dX8_renderFurnace_79 (by decide) ?_
          refine lv_iload_n hx hb dX8_renderFurnace_37 rfl (lv_at hl_786 0 rfl) ?_
          refine lv_iconst (v := 4) hx hb dX8_renderFurnace_38 (by decide) ?_
          refine lv_icmp_ge (tgt := 82) hx hb dX8_renderFurnace_39 (by decide) (fun h9 => absurd h9 (by decide)) (fun _ => ?_)
          refine lv_aload_n hx hb dX8_renderFurnace_42 rfl (lv_at hl_786 2 rfl) ?_
          refine gM_v C hW_42 (hwc hwX8) (mc qw_1481) dX8_renderFurnace_43 ?_
          refine lv_iload_n hx hb dX8_renderFurnace_46 rfl (lv_at hl_786 1 rfl) ?_
          refine lv_iload_n hx hb dX8_renderFurnace_47 rfl (lv_at hl_786 0 rfl) ?_
          refine lv_iadd hx hb dX8_renderFurnace_48 ?_
          refine g_top (y := nI ((9 + 6 * f_17) + 3)) (nI_add (9 + 6 * f_17) 3) ?_
          refine gm_vld C hW_42 ((9 + 6 * f_17) + 3) (nI_clamp (by omega)) (vp_in_nI (show (9 + 6 * f_17) + 3 < 128 by omega) (by decide)) dX8_renderFurnace_49 ?_
          refine g_top (y := X.1 16 ((9 + 6 * f_17) + 3)) (congrFun (rd_in (by decide) (rd_in (by decide) rfl)) _) ?_
          refine g_top (y := nI m3) em3 ?_
          refine lv_if_ne (tgt := 56) hx hb dX8_renderFurnace_50 (by decide) (fun b_787 => ?_) (fun b_787 => ?_)
          · have fb_787 : ¬ m3 = 0 := fun q9 => b_787 ((nI_eq (a := m3) (b := 0) (by omega) (by omega)).mpr q9)
            refine lv_aload_n hx hb dX8_renderFurnace_56 rfl (lv_at hl_786 2 rfl) ?_
            refine lv_iload_n hx hb dX8_renderFurnace_57 rfl (lv_at hl_786 0 rfl) ?_
            refine g_calli (va_runS (As := [.int 3]) (rest := [.ref (ad G 723)]) C.1 (cX8_letter_ok l G (setRow (setRow X 15 w_39) 23 (X.1 23)) 3) (va_cwS 1 C.1.2.2.2.2 (gS qw_1860 qw_1861 qw_81 qw_1862) rfl rfl rfl (by decide +kernel) ⟨Nat.le_of_ble_eq_true rfl, Nat.le_of_ble_eq_true rfl⟩) (g_pre C hW_42 hS_38 [.int 3]) rfl rfl hl_786.1 rfl (lv_room (Nat.le_of_ble_eq_true rfl)) dX8_renderFurnace_58 ⟨Nat.zero_le _, Nat.zero_le _⟩) hS_38 (fun r_789 Y_790 H_791 locs_792 hW_793 hS_794 h_788 => ?_)
            obtain ⟨h_788, hy_795⟩ := h_788
            replace hy_795 := hy_795.symm
            subst hy_795
            replace h_788 : r_789 = oM_letter 3 := h_788
            subst h_788
            refine g_callv (va_runV (As := [.int (oM_letter 3)]) (rest := []) C.1 (cX8_writes_ok l G (setRow (setRow X 15 w_39) 23 (X.1 23)) 0 (show 0 < 40 by omega) kn_41 (oM_letter 3)) (cwV 1 C.1.2.2.2.2 (gV qw_1863 qw_1865 qw_59 qw_81 qw_1866) rfl rfl rfl (by decide +kernel) ⟨Nat.le_of_ble_eq_true rfl, Nat.le_of_ble_eq_true rfl⟩) (g_rModel C hW_793 hS_794 [.int (oM_letter 3)]) rfl rfl hl_786.1 rfl (lv_room (Nat.le_of_ble_eq_true rfl)) dX8_renderFurnace_61 ⟨Nat.zero_le _, Nat.zero_le _⟩) hS_794 (fun Y_797 H_798 locs_799 hW_800 hS_801 h_796 => ?_)
            replace h_796 : Y_797 = setRow (setRow (setRow (setRow X 15 w_39) 23 (X.1 23)) 15 (upd w_39 (8) (nI (0 + 1)))) 23 (upd (X.1 23) (0) (oM_letter 3)) := h_796
            obtain ⟨w_802, ew_802⟩ : ∃ Z9, Z9 = upd w_39 (8) (nI (0 + 1)) := ⟨_, rfl⟩
            obtain ⟨w_803, ew_803⟩ : ∃ Z9, Z9 = upd (X.1 23) (0) (oM_letter 3) := ⟨_, rfl⟩
            have qqw_802 : Y_797 = setRow (setRow (setRow (setRow X 15 w_39) 23 (X.1 23)) 15 w_802) 23 w_803 := by rw [h_796, ew_802, ew_803]
            have hW_804 : Wd G (setRow (setRow X 15 w_802) 23 w_803) H_798 := Wd.cast (((qqw_802).trans (congrArg (fun Z9 => setRow (Z9) 23 w_803) (sr_in (by decide) sr_out))).trans (congrArg (fun Z9 => Z9) sr_out)) hW_800
            have kn_805 : w_802 (8) = nI (0 + 1) := by rw [ew_802]; exact pk_us
            refine lv_aload_n hx hb dX8_renderFurnace_64 rfl (lv_at hl_786 2 rfl) ?_
            refine lv_aload_n hx hb dX8_renderFurnace_65 rfl (lv_at hl_786 2 rfl) ?_
            refine gM_v C hW_804 (hwc hwX8) (mc qw_1481) dX8_renderFurnace_66 ?_
            refine lv_iload_n hx hb dX8_renderFurnace_69 rfl (lv_at hl_786 1 rfl) ?_
            refine lv_iload_n hx hb dX8_renderFurnace_70 rfl (lv_at hl_786 0 rfl) ?_
            refine lv_iadd hx hb dX8_renderFurnace_71 ?_
            refine g_top (y := nI ((9 + 6 * f_17) + 3)) (nI_add (9 + 6 * f_17) 3) ?_
            refine gm_vld C hW_804 ((9 + 6 * f_17) + 3) (nI_clamp (by omega)) (vp_in_nI (show (9 + 6 * f_17) + 3 < 128 by omega) (by decide)) dX8_renderFurnace_72 ?_
            refine g_top (y := X.1 16 ((9 + 6 * f_17) + 3)) (congrFun (rd_in (by decide) (rd_in (by decide) rfl)) _) ?_
            refine g_top (y := nI m3) em3 ?_
            refine g_callv (va_runV (As := [.int (nI m3)]) (rest := []) C.1 (cX8_writesNumber_ok l G (setRow (setRow X 15 w_802) 23 w_803) (0 + 1) (show 0 + 1 + 4 < 40 by omega) kn_805 m3 (show m3 < 10000 by omega)) (cwV 1 C.1.2.2.2.2 (gV qw_1867 qw_1869 qw_60 qw_81 qw_1870) rfl rfl rfl (by decide +kernel) ⟨Nat.le_of_ble_eq_true rfl, Nat.le_of_ble_eq_true rfl⟩) (g_rModel C hW_804 hS_801 [.int (nI m3)]) rfl rfl hl_786.1 rfl (lv_room (Nat.le_of_ble_eq_true rfl)) dX8_renderFurnace_73 ⟨Nat.zero_le _, Nat.zero_le _⟩) hS_801 (fun Y_807 H_808 locs_809 hW_810 hS_811 h_806 => ?_)
            replace h_806 : Y_807 = setRow (setRow (setRow (setRow X 15 w_802) 23 w_803) 15 (upd w_802 (8) (nI (0 + 1 + sb_dg m3)))) 23 (wnR w_803 (0 + 1) m3) := h_806
            obtain ⟨w_812, ew_812⟩ : ∃ Z9, Z9 = upd w_802 (8) (nI (0 + 1 + sb_dg m3)) := ⟨_, rfl⟩
            obtain ⟨w_813, ew_813⟩ : ∃ Z9, Z9 = wnR w_803 (0 + 1) m3 := ⟨_, rfl⟩
            have qqw_812 : Y_807 = setRow (setRow (setRow (setRow X 15 w_802) 23 w_803) 15 w_812) 23 w_813 := by rw [h_806, ew_812, ew_813]
            have hW_814 : Wd G (setRow (setRow X 15 w_812) 23 w_813) H_808 := Wd.cast (((qqw_812).trans (congrArg (fun Z9 => setRow (Z9) 23 w_813) (sr_in (by decide) sr_out))).trans (congrArg (fun Z9 => Z9) sr_out)) hW_810
            have kn_815 : w_812 (8) = nI (0 + 1 + sb_dg m3) := by rw [ew_812]; exact pk_us
            refine lv_iinc (v := 4) (lv' := [(3, .int 4), (2, .int (nI (9 + 6 * f_17))), (0, .ref (ad G 723)), (1, .int (nI f_17))]) hx hb dX8_renderFurnace_76 hl_786 (k := 0) rfl (by decide) (by decide) rfl (fun ls_816 hl_817 => ?_)
            refine lv_goto (tgt := 37) hx hb dX8_renderFurnace_79 (by decide) ?_
            refine lv_iload_n hx hb dX8_renderFurnace_37 rfl (lv_at hl_817 0 rfl) ?_
            refine lv_iconst (v := 4) hx hb dX8_renderFurnace_38 (by decide) ?_
            refine lv_icmp_ge (tgt := 82) hx hb dX8_renderFurnace_39 (by decide) (fun _ => ?_) (fun h9 => absurd h9 (by decide))
            refine lv_aload_n hx hb dX8_renderFurnace_82 rfl (lv_at hl_817 2 rfl) ?_
            refine lv_bipush (v := 64) hx hb dX8_renderFurnace_83 (by decide) ?_
            refine g_callv (va_runV (As := [.int 64]) (rest := []) C.1 (cX8_writes_ok l G (setRow (setRow X 15 w_812) 23 w_813) (0 + 1 + sb_dg m3) (show 0 + 1 + sb_dg m3 < 40 by omega) kn_815 64) (cwV 1 C.1.2.2.2.2 (gV qw_1863 qw_1865 qw_59 qw_81 qw_1866) rfl rfl rfl (by decide +kernel) ⟨Nat.le_of_ble_eq_true rfl, Nat.le_of_ble_eq_true rfl⟩) (g_rModel C hW_814 hS_811 [.int 64]) rfl rfl hl_817.1 rfl (lv_room (Nat.le_of_ble_eq_true rfl)) dX8_renderFurnace_85 ⟨Nat.zero_le _, Nat.zero_le _⟩) hS_811 (fun Y_819 H_820 locs_821 hW_822 hS_823 h_818 => ?_)
            replace h_818 : Y_819 = setRow (setRow (setRow (setRow X 15 w_812) 23 w_813) 15 (upd w_812 (8) (nI (0 + 1 + sb_dg m3 + 1)))) 23 (upd w_813 (0 + 1 + sb_dg m3) 64) := h_818
            obtain ⟨w_824, ew_824⟩ : ∃ Z9, Z9 = upd w_812 (8) (nI (0 + 1 + sb_dg m3 + 1)) := ⟨_, rfl⟩
            obtain ⟨w_825, ew_825⟩ : ∃ Z9, Z9 = upd w_813 (0 + 1 + sb_dg m3) 64 := ⟨_, rfl⟩
            have qqw_824 : Y_819 = setRow (setRow (setRow (setRow X 15 w_812) 23 w_813) 15 w_824) 23 w_825 := by rw [h_818, ew_824, ew_825]
            have hW_826 : Wd G (setRow (setRow X 15 w_824) 23 w_825) H_820 := Wd.cast (((qqw_824).trans (congrArg (fun Z9 => setRow (Z9) 23 w_825) (sr_in (by decide) sr_out))).trans (congrArg (fun Z9 => Z9) sr_out)) hW_822
            have kn_827 : w_824 (8) = nI (0 + 1 + sb_dg m3 + 1) := by rw [ew_824]; exact pk_us
            refine lv_aload_n hx hb dX8_renderFurnace_88 rfl (lv_at hl_817 2 rfl) ?_
            refine lv_aload_n hx hb dX8_renderFurnace_89 rfl (lv_at hl_817 2 rfl) ?_
            refine gM_v C hW_826 (hwc hwX8) (mc qw_1481) dX8_renderFurnace_90 ?_
            refine lv_iload_n hx hb dX8_renderFurnace_93 rfl (lv_at hl_817 1 rfl) ?_
            refine lv_iconst (v := 4) hx hb dX8_renderFurnace_94 (by decide) ?_
            refine lv_iadd hx hb dX8_renderFurnace_95 ?_
            refine g_top (y := nI ((9 + 6 * f_17) + 4)) (nI_add (9 + 6 * f_17) 4) ?_
            refine gm_vld C hW_826 ((9 + 6 * f_17) + 4) (nI_clamp (by omega)) (vp_in_nI (show (9 + 6 * f_17) + 4 < 128 by omega) (by decide)) dX8_renderFurnace_96 ?_
            refine g_top (y := X.1 16 ((9 + 6 * f_17) + 4)) (congrFun (rd_in (by decide) (rd_in (by decide) rfl)) _) ?_
            refine g_top (y := nI tt) em4 ?_
            refine g_callv (va_runV (As := [.int (nI tt)]) (rest := []) C.1 (cX8_writesNumber_ok l G (setRow (setRow X 15 w_824) 23 w_825) (0 + 1 + sb_dg m3 + 1) (show 0 + 1 + sb_dg m3 + 1 + 4 < 40 by omega) kn_827 tt (show tt < 10000 by omega)) (cwV 1 C.1.2.2.2.2 (gV qw_1867 qw_1869 qw_60 qw_81 qw_1870) rfl rfl rfl (by decide +kernel) ⟨Nat.le_of_ble_eq_true rfl, Nat.le_of_ble_eq_true rfl⟩) (g_rModel C hW_826 hS_823 [.int (nI tt)]) rfl rfl hl_817.1 rfl (lv_room (Nat.le_of_ble_eq_true rfl)) dX8_renderFurnace_97 ⟨Nat.zero_le _, Nat.zero_le _⟩) hS_823 (fun Y_829 H_830 locs_831 hW_832 hS_833 h_828 => ?_)
            replace h_828 : Y_829 = setRow (setRow (setRow (setRow X 15 w_824) 23 w_825) 15 (upd w_824 (8) (nI (0 + 1 + sb_dg m3 + 1 + sb_dg tt)))) 23 (wnR w_825 (0 + 1 + sb_dg m3 + 1) tt) := h_828
            obtain ⟨w_834, ew_834⟩ : ∃ Z9, Z9 = upd w_824 (8) (nI (0 + 1 + sb_dg m3 + 1 + sb_dg tt)) := ⟨_, rfl⟩
            obtain ⟨w_835, ew_835⟩ : ∃ Z9, Z9 = wnR w_825 (0 + 1 + sb_dg m3 + 1) tt := ⟨_, rfl⟩
            have qqw_834 : Y_829 = setRow (setRow (setRow (setRow X 15 w_824) 23 w_825) 15 w_834) 23 w_835 := by rw [h_828, ew_834, ew_835]
            have hW_836 : Wd G (setRow (setRow X 15 w_834) 23 w_835) H_830 := Wd.cast (((qqw_834).trans (congrArg (fun Z9 => setRow (Z9) 23 w_835) (sr_in (by decide) sr_out))).trans (congrArg (fun Z9 => Z9) sr_out)) hW_832
            have kn_837 : w_834 (8) = nI (0 + 1 + sb_dg m3 + 1 + sb_dg tt) := by rw [ew_834]; exact pk_us
            refine lv_aload_n hx hb dX8_renderFurnace_100 rfl (lv_at hl_817 2 rfl) ?_
            refine gM_lineN C hW_836 (hwc hwX8) (mc qw_1495) dX8_renderFurnace_101 ?_
            refine g_top (y := w_834 (8)) (congrFun (rd_in (by decide) rd_out) _) ?_
            refine g_top (y := nI (0 + 1 + sb_dg m3 + 1 + sb_dg tt)) kn_837 ?_
            exact g_iret C hr hlk hW_836 hS_833 dX8_renderFurnace_104 (by subst ew_835; subst ew_834; subst ew_825; subst ew_824; subst ew_813; subst ew_812; subst ew_803; subst ew_802; subst ew_39; subst ew_22; have e9 : rmS (X.1 16) (9 + 6 * f_17) (X.1 23) = (0 + 1 + sb_dg m3 + 1 + sb_dg tt, _) := (by simp only [rmS, rmM, show X.1 16 (9 + 6 * f_17) = nI m0 from em0, em1, em2, em3, em4, clf (show m0 < 2 ^ 31 by omega), clf (show m1 < 2 ^ 31 by omega), clf (show m2 < 2 ^ 31 by omega), clf (show m3 < 2 ^ 31 by omega), clf (show tt < 2 ^ 31 by omega), eq_true b_45, eq_true b_469, eq_true b_681, b_787, if_true, if_false, Nat.zero_add]; first | done | rfl); exact ⟨by simp only [oM_renderFurnace, b_9, if_false, clf (show f_17 < 2 ^ 31 by omega), e9]; first | done | rfl, by simp only [oM_renderFurnace, b_9, if_false, clf (show f_17 < 2 ^ 31 by omega), e9, uu8]; first | done | rfl⟩)
          · have fb_787 : m3 = 0 := (nI_eq (a := m3) (b := 0) (by omega) (by omega)).mp b_787
            refine lv_goto (tgt := 76) hx hb dX8_renderFurnace_53 (by decide) ?_
            refine lv_iinc (v := 4) (lv' := [(3, .int 4), (2, .int (nI (9 + 6 * f_17))), (0, .ref (ad G 723)), (1, .int (nI f_17))]) hx hb dX8_renderFurnace_76 hl_786 (k := 0) rfl (by decide) (by decide) rfl (fun ls_838 hl_839 => ?_)
            refine lv_goto (tgt := 37) hx hb dX8_renderFurnace_79 (by decide) ?_
            refine lv_iload_n hx hb dX8_renderFurnace_37 rfl (lv_at hl_839 0 rfl) ?_
            refine lv_iconst (v := 4) hx hb dX8_renderFurnace_38 (by decide) ?_
            refine lv_icmp_ge (tgt := 82) hx hb dX8_renderFurnace_39 (by decide) (fun _ => ?_) (fun h9 => absurd h9 (by decide))
            refine lv_aload_n hx hb dX8_renderFurnace_82 rfl (lv_at hl_839 2 rfl) ?_
            refine lv_bipush (v := 64) hx hb dX8_renderFurnace_83 (by decide) ?_
            refine g_callv (va_runV (As := [.int 64]) (rest := []) C.1 (cX8_writes_ok l G (setRow (setRow X 15 w_39) 23 (X.1 23)) 0 (show 0 < 40 by omega) kn_41 64) (cwV 1 C.1.2.2.2.2 (gV qw_1863 qw_1865 qw_59 qw_81 qw_1866) rfl rfl rfl (by decide +kernel) ⟨Nat.le_of_ble_eq_true rfl, Nat.le_of_ble_eq_true rfl⟩) (g_rModel C hW_42 hS_38 [.int 64]) rfl rfl hl_839.1 rfl (lv_room (Nat.le_of_ble_eq_true rfl)) dX8_renderFurnace_85 ⟨Nat.zero_le _, Nat.zero_le _⟩) hS_38 (fun Y_841 H_842 locs_843 hW_844 hS_845 h_840 => ?_)
            replace h_840 : Y_841 = setRow (setRow (setRow (setRow X 15 w_39) 23 (X.1 23)) 15 (upd w_39 (8) (nI (0 + 1)))) 23 (upd (X.1 23) (0) 64) := h_840
            obtain ⟨w_846, ew_846⟩ : ∃ Z9, Z9 = upd w_39 (8) (nI (0 + 1)) := ⟨_, rfl⟩
            obtain ⟨w_847, ew_847⟩ : ∃ Z9, Z9 = upd (X.1 23) (0) 64 := ⟨_, rfl⟩
            have qqw_846 : Y_841 = setRow (setRow (setRow (setRow X 15 w_39) 23 (X.1 23)) 15 w_846) 23 w_847 := by rw [h_840, ew_846, ew_847]
            have hW_848 : Wd G (setRow (setRow X 15 w_846) 23 w_847) H_842 := Wd.cast (((qqw_846).trans (congrArg (fun Z9 => setRow (Z9) 23 w_847) (sr_in (by decide) sr_out))).trans (congrArg (fun Z9 => Z9) sr_out)) hW_844
            have kn_849 : w_846 (8) = nI (0 + 1) := by rw [ew_846]; exact pk_us
            refine lv_aload_n hx hb dX8_renderFurnace_88 rfl (lv_at hl_839 2 rfl) ?_
            refine lv_aload_n hx hb dX8_renderFurnace_89 rfl (lv_at hl_839 2 rfl) ?_
            refine gM_v C hW_848 (hwc hwX8) (mc qw_1481) dX8_renderFurnace_90 ?_
            refine lv_iload_n hx hb dX8_renderFurnace_93 rfl (lv_at hl_839 1 rfl) ?_
            refine lv_iconst (v := 4) hx hb dX8_renderFurnace_94 (by decide) ?_
            refine lv_iadd hx hb dX8_renderFurnace_95 ?_
            refine g_top (y := nI ((9 + 6 * f_17) + 4)) (nI_add (9 + 6 * f_17) 4) ?_
            refine gm_vld C hW_848 ((9 + 6 * f_17) + 4) (nI_clamp (by omega)) (vp_in_nI (show (9 + 6 * f_17) + 4 < 128 by omega) (by decide)) dX8_renderFurnace_96 ?_
            refine g_top (y := X.1 16 ((9 + 6 * f_17) + 4)) (congrFun (rd_in (by decide) (rd_in (by decide) rfl)) _) ?_
            refine g_top (y := nI tt) em4 ?_
            refine g_callv (va_runV (As := [.int (nI tt)]) (rest := []) C.1 (cX8_writesNumber_ok l G (setRow (setRow X 15 w_846) 23 w_847) (0 + 1) (show 0 + 1 + 4 < 40 by omega) kn_849 tt (show tt < 10000 by omega)) (cwV 1 C.1.2.2.2.2 (gV qw_1867 qw_1869 qw_60 qw_81 qw_1870) rfl rfl rfl (by decide +kernel) ⟨Nat.le_of_ble_eq_true rfl, Nat.le_of_ble_eq_true rfl⟩) (g_rModel C hW_848 hS_845 [.int (nI tt)]) rfl rfl hl_839.1 rfl (lv_room (Nat.le_of_ble_eq_true rfl)) dX8_renderFurnace_97 ⟨Nat.zero_le _, Nat.zero_le _⟩) hS_845 (fun Y_851 H_852 locs_853 hW_854 hS_855 h_850 => ?_)
            replace h_850 : Y_851 = setRow (setRow (setRow (setRow X 15 w_846) 23 w_847) 15 (upd w_846 (8) (nI (0 + 1 + sb_dg tt)))) 23 (wnR w_847 (0 + 1) tt) := h_850
            obtain ⟨w_856, ew_856⟩ : ∃ Z9, Z9 = upd w_846 (8) (nI (0 + 1 + sb_dg tt)) := ⟨_, rfl⟩
            obtain ⟨w_857, ew_857⟩ : ∃ Z9, Z9 = wnR w_847 (0 + 1) tt := ⟨_, rfl⟩
            have qqw_856 : Y_851 = setRow (setRow (setRow (setRow X 15 w_846) 23 w_847) 15 w_856) 23 w_857 := by rw [h_850, ew_856, ew_857]
            have hW_858 : Wd G (setRow (setRow X 15 w_856) 23 w_857) H_852 := Wd.cast (((qqw_856).trans (congrArg (fun Z9 => setRow (Z9) 23 w_857) (sr_in (by decide) sr_out))).trans (congrArg (fun Z9 => Z9) sr_out)) hW_854
            have kn_859 : w_856 (8) = nI (0 + 1 + sb_dg tt) := by rw [ew_856]; exact pk_us
            refine lv_aload_n hx hb dX8_renderFurnace_100 rfl (lv_at hl_839 2 rfl) ?_
            refine gM_lineN C hW_858 (hwc hwX8) (mc qw_1495) dX8_renderFurnace_101 ?_
            refine g_top (y := w_856 (8)) (congrFun (rd_in (by decide) rd_out) _) ?_
            refine g_top (y := nI (0 + 1 + sb_dg tt)) kn_859 ?_
            exact g_iret C hr hlk hW_858 hS_855 dX8_renderFurnace_104 (by subst ew_857; subst ew_856; subst ew_847; subst ew_846; subst ew_39; subst ew_22; have e9 : rmS (X.1 16) (9 + 6 * f_17) (X.1 23) = (0 + 1 + sb_dg tt, _) := (by simp only [rmS, rmM, show X.1 16 (9 + 6 * f_17) = nI m0 from em0, em1, em2, em3, em4, clf (show m0 < 2 ^ 31 by omega), clf (show m1 < 2 ^ 31 by omega), clf (show m2 < 2 ^ 31 by omega), clf (show m3 < 2 ^ 31 by omega), clf (show tt < 2 ^ 31 by omega), eq_true b_45, eq_true b_469, eq_true b_681, eq_true b_787, if_true, if_false, Nat.zero_add]; first | done | rfl); exact ⟨by simp only [oM_renderFurnace, b_9, if_false, clf (show f_17 < 2 ^ 31 by omega), e9]; first | done | rfl, by simp only [oM_renderFurnace, b_9, if_false, clf (show f_17 < 2 ^ 31 by omega), e9, uu8]; first | done | rfl⟩)

def oM_renderGrades (w15 : Nat → Int32) (w16 : Nat → Int32) (w23 : Nat → Int32) : Int32 × ((Nat → Int32) × (Nat → Int32)) := 
  (nI (w16 43).toNatClampNeg, upd (upd w15 0 0) 8 (nI (w16 43).toNatClampNeg), grM w16 w23 (w16 43).toNatClampNeg)
set_option maxHeartbeats 4000000 in
set_option maxRecDepth 100000 in
theorem cX8_renderGrades_ok (l : Launch) (G : GT) (X : St) (hm : MInv (X.1 16)) : MetI l G yX8_renderGrades (wsG yX8_renderGrades cX8_renderGrades 2 (some .int)) (rmz 3 64) [.ref (ad G 723)] X (fun res Y => res = (oM_renderGrades (X.1 15) (X.1 16) (X.1 23)).1 ∧ Y = setRow (setRow (X) 15 ((oM_renderGrades (X.1 15) (X.1 16) (X.1 23)).2.1)) 23 ((oM_renderGrades (X.1 15) (X.1 16) (X.1 23)).2.2)) := by
  refine g_met (cc := cX8_renderGrades) (maxL := 2) (ret := (some .int)) (by decide) rfl (Nat.le_of_ble_eq_true rfl) ?_
  intro p e s m below meth c ls C hr hlk hnm hW hl
  have hx := C.1.1
  have hb := C.1.2.1
  have hS : va_S (Ab G) s.heap s.heap [] := va_S.rf
  have hl : lv_has ls 2 [(0, .ref (ad G 723))] := hl
  have hW : Wd G (setRow (setRow (X) 15 (X.1 15)) 23 (X.1 23)) s.heap := Wd.cast (((sr_same (X := setRow (X) 15 (X.1 15)) (r := 23) rfl).trans (sr_same (X := X) (r := 15) rfl))).symm hW
  obtain ⟨km, hkm, em, hmm⟩ := hm.2.2.1
  obtain ⟨ki, hki, ei, hii⟩ := hm.2.2.2.1
  refine lv_aload_n hx hb dX8_renderGrades_0 rfl (lv_at hl 0 rfl) ?_
  refine lv_iconst (v := 0) hx hb dX8_renderGrades_1 (by decide) ?_
  refine gM_thrownP C hW hS (hwc hwX8) (mc qw_1476) dX8_renderGrades_2 (fun H_1 locs_2 hW_3 hS_4 => ?_)
  obtain ⟨w_5, ew_5⟩ : ∃ Z9, Z9 = upd (X.1 15) (0) 0 := ⟨_, rfl⟩
  have kn_6 : w_5 (0) = 0 := by rw [ew_5]; exact pk_us
  have hW_7 : Wd G (setRow (setRow X 15 w_5) 23 (X.1 23)) H_1 := Wd.cast (by rw [ew_5]; exact (st_in (by decide) st_out)) hW_3
  refine lv_aload_n hx hb dX8_renderGrades_5 rfl (lv_at hl 0 rfl) ?_
  refine lv_iconst (v := 0) hx hb dX8_renderGrades_6 (by decide) ?_
  refine gM_lineNP C hW_7 hS_4 (hwc hwX8) (mc qw_1495) dX8_renderGrades_7 (fun H_8 locs_9 hW_10 hS_11 => ?_)
  obtain ⟨w_12, ew_12⟩ : ∃ Z9, Z9 = upd w_5 (8) 0 := ⟨_, rfl⟩
  have kn_13 : w_12 (0) = 0 := by rw [ew_12]; exact (pk_un (by omega)).trans kn_6
  have kn_14 : w_12 (8) = 0 := by rw [ew_12]; exact pk_us
  have hW_15 : Wd G (setRow (setRow X 15 w_12) 23 (X.1 23)) H_8 := Wd.cast (by rw [ew_12]; exact (st_in (by decide) st_out)) hW_10
  refine lv_iconst (v := 0) hx hb dX8_renderGrades_10 (by decide) ?_
  refine lv_istore_n (lv' := [(1, .int 0), (0, .ref (ad G 723))]) hx hb dX8_renderGrades_11 rfl hl (by decide) rfl (fun ls_16 hl_17 => ?_)
  have loop : ∀ (q : Nat) (kk : Nat) (zz yy : Nat → Int32) (H : Heap) (locs : List Loc) (ls : Array Slot), kk + q = ki → zz = grM (X.1 16) (X.1 23) kk → yy = upd w_12 (8) (nI kk) → Wd G (setRow (setRow X 15 yy) 23 zz) H → va_S (Ab G) s.heap H locs → lv_has ls 2 [(1, .int (nI kk)), (0, .ref (ad G 723))] → W p l e (rmz 3 64) s m ([.ref (ad G 723)] : List Value).toArray below meth c H locs 0 0 (MQ below (Ki G (fun res Y => res = (oM_renderGrades (X.1 15) (X.1 16) (X.1 23)).1 ∧ Y = setRow (setRow (X) 15 ((oM_renderGrades (X.1 15) (X.1 16) (X.1 23)).2.1)) 23 ((oM_renderGrades (X.1 15) (X.1 16) (X.1 23)).2.2))) ([.ref (ad G 723)] : List Value).toArray s 0 0 (Ab G)) (F0 m 12 ls []) := by
    intro q
    induction q with
    | zero =>
      intro kk zz yy H locs ls hq hz hy hW hS hl
      have hkk : kk = ki := by omega
      refine lv_iload_n hx hb dX8_renderGrades_12 rfl (lv_at hl 0 rfl) ?_
      refine lv_aload_n hx hb dX8_renderGrades_13 rfl (lv_at hl 1 rfl) ?_
      refine gM_v C hW (hwc hwX8) (mc qw_1481) dX8_renderGrades_14 ?_
      refine lv_bipush (v := 43) hx hb dX8_renderGrades_17 (by decide) ?_
      refine gm_vld C hW 43 (by decide) (vlit (by decide)) dX8_renderGrades_19 ?_
      refine g_top (y := X.1 16 (43)) (congrFun (rd_in (by decide) (rd_in (by decide) rfl)) _) ?_
      refine g_top (y := nI ki) ei ?_
      refine lv_icmp_ge (tgt := 38) hx hb dX8_renderGrades_20 (by decide) (fun _ => ?_) (fun h9 => absurd (nI_le (a := ki) (b := kk) (by omega) (by omega)) h9)
      refine lv_aload_n hx hb dX8_renderGrades_38 rfl (lv_at hl 1 rfl) ?_
      refine gM_lineN C hW (hwc hwX8) (mc qw_1495) dX8_renderGrades_39 ?_
      refine g_top (y := yy (8)) (congrFun (rd_in (by decide) rd_out) _) ?_
      exact g_iret C hr hlk hW hS dX8_renderGrades_42 (by subst hkk; subst hy; subst hz; subst ew_12; subst ew_5; exact ⟨(by simp only [oM_renderGrades, ei, clf (show kk < 2 ^ 31 by omega)]; first | done | exact pk_us | rfl), (by simp only [oM_renderGrades, ei, clf (show kk < 2 ^ 31 by omega), uu8]; first | done | rfl)⟩)
    | succ q ih =>
      intro kk zz yy H locs ls hq hz hy hW hS hl
      have hy8 : yy (8) = nI kk := by rw [hy]; exact pk_us
      refine lv_iload_n hx hb dX8_renderGrades_12 rfl (lv_at hl 0 rfl) ?_
      refine lv_aload_n hx hb dX8_renderGrades_13 rfl (lv_at hl 1 rfl) ?_
      refine gM_v C hW (hwc hwX8) (mc qw_1481) dX8_renderGrades_14 ?_
      refine lv_bipush (v := 43) hx hb dX8_renderGrades_17 (by decide) ?_
      refine gm_vld C hW 43 (by decide) (vlit (by decide)) dX8_renderGrades_19 ?_
      refine g_top (y := X.1 16 (43)) (congrFun (rd_in (by decide) (rd_in (by decide) rfl)) _) ?_
      refine g_top (y := nI ki) ei ?_
      refine lv_icmp_ge (tgt := 38) hx hb dX8_renderGrades_20 (by decide) (fun h9 => absurd h9 (nI_ge (a := kk) (b := ki) (by omega) (by omega))) (fun _ => ?_)
      refine lv_aload_n hx hb dX8_renderGrades_23 rfl (lv_at hl 1 rfl) ?_
      refine lv_aload_n hx hb dX8_renderGrades_24 rfl (lv_at hl 1 rfl) ?_
      refine lv_iload_n hx hb dX8_renderGrades_25 rfl (lv_at hl 0 rfl) ?_
      refine g_calli (va_runV (As := [.int (nI kk)]) (rest := [.ref (ad G 723)]) C.1 (cX8_gradeOf_ok l G (setRow (setRow X 15 yy) 23 zz) kk (show kk < 12 by omega) (ing_mass hii (show kk < ki by omega))) (cwV 1 C.1.2.2.2.2 (gV qw_1810 qw_1812 qw_57 qw_81 qw_1813) rfl rfl rfl (by decide +kernel) ⟨Nat.le_of_ble_eq_true rfl, Nat.le_of_ble_eq_true rfl⟩) (g_rModel C hW hS [.int (nI kk)]) rfl rfl hl.1 rfl (lv_room (Nat.le_of_ble_eq_true rfl)) dX8_renderGrades_26 ⟨Nat.zero_le _, Nat.zero_le _⟩) hS (fun r_19 Y_20 H_21 locs_22 hW_23 hS_24 h_18 => ?_)
      obtain ⟨h_18, hy_25⟩ := h_18
      replace hy_25 := hy_25.symm
      subst hy_25
      replace h_18 : r_19 = oM_gradeOf (X.1 16) kk := h_18
      subst h_18
      refine g_callv (va_runV (As := [.int (oM_gradeOf (X.1 16) kk)]) (rest := []) C.1 (cX8_writes_ok l G (setRow (setRow X 15 yy) 23 zz) kk (show kk < 40 by omega) hy8 (oM_gradeOf (X.1 16) kk)) (cwV 1 C.1.2.2.2.2 (gV qw_1863 qw_1865 qw_59 qw_81 qw_1866) rfl rfl rfl (by decide +kernel) ⟨Nat.le_of_ble_eq_true rfl, Nat.le_of_ble_eq_true rfl⟩) (g_rModel C hW_23 hS_24 [.int (oM_gradeOf (X.1 16) kk)]) rfl rfl hl.1 rfl (lv_room (Nat.le_of_ble_eq_true rfl)) dX8_renderGrades_29 ⟨Nat.zero_le _, Nat.zero_le _⟩) hS_24 (fun Y_27 H_28 locs_29 hW_30 hS_31 h_26 => ?_)
      replace h_26 : Y_27 = setRow (setRow (setRow (setRow X 15 yy) 23 zz) 15 (upd yy (8) (nI (kk + 1)))) 23 (upd zz (kk) (oM_gradeOf (X.1 16) kk)) := h_26
      obtain ⟨w_32, ew_32⟩ : ∃ Z9, Z9 = upd yy (8) (nI (kk + 1)) := ⟨_, rfl⟩
      obtain ⟨w_33, ew_33⟩ : ∃ Z9, Z9 = upd zz (kk) (oM_gradeOf (X.1 16) kk) := ⟨_, rfl⟩
      have qqw_32 : Y_27 = setRow (setRow (setRow (setRow X 15 yy) 23 zz) 15 w_32) 23 w_33 := by rw [h_26, ew_32, ew_33]
      have hW_34 : Wd G (setRow (setRow X 15 w_32) 23 w_33) H_28 := Wd.cast (((qqw_32).trans (congrArg (fun Z9 => setRow (Z9) 23 w_33) (sr_in (by decide) sr_out))).trans (congrArg (fun Z9 => Z9) sr_out)) hW_30
      have kn_35 : w_32 (8) = nI (kk + 1) := by rw [ew_32]; exact pk_us
      refine lv_iinc (v := nI (kk + 1)) (lv' := [(1, .int (nI (kk + 1))), (0, .ref (ad G 723))]) hx hb dX8_renderGrades_32 hl (k := 0) rfl (nI_1 kk) (by decide) rfl (fun ls_36 hl_37 => ?_)
      refine lv_goto (tgt := 12) hx hb dX8_renderGrades_35 (by decide) ?_
      exact ih (kk + 1) w_33 w_32 H_28 locs_29 ls_36 (by omega) (by subst ew_33; subst ew_32; rw [hz]; rfl) (by subst ew_33; subst ew_32; rw [hy]; exact uu8) hW_34 hS_31 (lv_sub hl_37 [0, 1] rfl)
  exact loop ki 0 (X.1 23) w_12 H_8 locs_9 ls_16 (by omega) rfl (by subst ew_12; subst ew_5; exact (uu8 (a := 0) (b := nI 0)).symm) hW_15 hS_11 (lv_sub hl_17 [0, 1] rfl)

def oM_outputAt (w15 : Nat → Int32) (w23 : Nat → Int32) (x : Int32) : Int32 × (Nat → Int32) := if oM_isIn x 0 ((w15 (8)) - 1) = 0 then (97, (upd (w15) (0) 1)) else (chW (w23 (x.toNatClampNeg)), (upd (w15) (0) 0))
set_option maxHeartbeats 4000000 in
set_option maxRecDepth 100000 in
theorem cX8_outputAt_ok (l : Launch) (G : GT) (X : St) (x : Int32) (n : Nat) (hn : n ≤ 40) (en : X.1 15 8 = nI n) : MetI l G yX8_outputAt (wsG yX8_outputAt cX8_outputAt 2 (some .char)) (rmz 1 22) [.ref (ad G 723), .int x] X (fun res Y => res = (oM_outputAt (X.1 15) (X.1 23) x).1 ∧ Y = setRow (X) 15 ((oM_outputAt (X.1 15) (X.1 23) x).2)) := by
  refine g_met (cc := cX8_outputAt) (maxL := 2) (ret := (some .char)) (by decide) rfl (Nat.le_of_ble_eq_true rfl) ?_
  intro p e s m below meth c ls C hr hlk hnm hW hl
  have hx := C.1.1
  have hb := C.1.2.1
  have hS : va_S (Ab G) s.heap s.heap [] := va_S.rf
  have hl : lv_has ls 2 [(0, .ref (ad G 723)), (1, .int x)] := hl
  have hW : Wd G (setRow (X) 15 (X.1 15)) s.heap := Wd.cast ((sr_same (X := X) (r := 15) rfl)).symm hW
  refine lv_aload_n hx hb dX8_outputAt_0 rfl (lv_at hl 0 rfl) ?_
  refine lv_iload_n hx hb dX8_outputAt_1 rfl (lv_at hl 1 rfl) ?_
  refine lv_iconst (v := 0) hx hb dX8_outputAt_2 (by decide) ?_
  refine lv_aload_n hx hb dX8_outputAt_3 rfl (lv_at hl 0 rfl) ?_
  refine gM_lineN C hW (hwc hwX8) (mc qw_1495) dX8_outputAt_4 ?_
  refine g_top (y := X.1 15 (8)) (congrFun rd_out _) ?_
  refine lv_iconst (v := 1) hx hb dX8_outputAt_7 (by decide) ?_
  refine lv_isub hx hb dX8_outputAt_8 ?_
  refine g_calli (va_runS (As := [.int x, .int 0, .int ((X.1 15 (8)) - 1)]) (rest := [.ref (ad G 723)]) C.1 (cX8_isIn_ok l G (setRow X 15 (X.1 15)) x 0 ((X.1 15 (8)) - 1)) (va_cwS 3 C.1.2.2.2.2 (gS qw_1568 qw_1569 qw_81 qw_1570) rfl rfl rfl (by decide +kernel) ⟨Nat.le_of_ble_eq_true rfl, Nat.le_of_ble_eq_true rfl⟩) (g_pre C hW hS [.int x, .int 0, .int ((X.1 15 (8)) - 1)]) rfl rfl hl.1 rfl (lv_room (Nat.le_of_ble_eq_true rfl)) dX8_outputAt_9 ⟨Nat.zero_le _, Nat.zero_le _⟩) hS (fun r_2 Y_3 H_4 locs_5 hW_6 hS_7 h_1 => ?_)
  obtain ⟨h_1, hy_8⟩ := h_1
  replace hy_8 := hy_8.symm
  subst hy_8
  replace h_1 : r_2 = oM_isIn x 0 ((X.1 15 (8)) - 1) := h_1
  subst h_1
  refine lv_if_eq (tgt := 19) hx hb dX8_outputAt_12 (by decide) (fun b_9 => ?_) (fun b_9 => ?_)
  · refine lv_iconst (v := 1) hx hb dX8_outputAt_19 (by decide) ?_
    refine gM_thrownP C hW_6 hS_7 (hwc hwX8) (mc qw_1476) dX8_outputAt_20 (fun H_10 locs_11 hW_12 hS_13 => ?_)
    obtain ⟨w_14, ew_14⟩ : ∃ Z9, Z9 = upd (X.1 15) (0) 1 := ⟨_, rfl⟩
    have kn_15 : w_14 (0) = 1 := by rw [ew_14]; exact pk_us
    have hW_16 : Wd G (setRow X 15 w_14) H_10 := Wd.cast (by rw [ew_14]; exact st_out) hW_12
    refine lv_aload_n hx hb dX8_outputAt_23 rfl (lv_at hl 0 rfl) ?_
    refine gM_thrown C hW_16 (hwc hwX8) (mc qw_1476) dX8_outputAt_24 ?_
    refine g_top (y := w_14 (0)) (congrFun rd_out _) ?_
    refine g_top (y := 1) kn_15 ?_
    refine lv_if_ne (tgt := 40) hx hb dX8_outputAt_27 (by decide) (fun _ => ?_) (fun h9 => absurd h9 (by decide))
    refine lv_bipush (v := 97) hx hb dX8_outputAt_40 (by decide) ?_
    exact g_zret C hr hlk hW_16 hS_13 dX8_outputAt_42 rfl (by subst ew_14; exact ⟨(by first | rfl | (simp only [oM_outputAt, eq_true b_9, if_true, if_false]; first | done | rfl)), (by first | rfl | (simp only [oM_outputAt, eq_true b_9, if_true, if_false]; first | done | rfl))⟩)
  · obtain ⟨f_17, hf_17, rfl⟩ := in_nat (n := n) (by omega) (by rw [en]) b_9
    refine lv_iconst (v := 0) hx hb dX8_outputAt_15 (by decide) ?_
    refine lv_goto (tgt := 20) hx hb dX8_outputAt_16 (by decide) ?_
    refine gM_thrownP C hW_6 hS_7 (hwc hwX8) (mc qw_1476) dX8_outputAt_20 (fun H_18 locs_19 hW_20 hS_21 => ?_)
    obtain ⟨w_22, ew_22⟩ : ∃ Z9, Z9 = upd (X.1 15) (0) 0 := ⟨_, rfl⟩
    have kn_23 : w_22 (0) = 0 := by rw [ew_22]; exact pk_us
    have hW_24 : Wd G (setRow X 15 w_22) H_18 := Wd.cast (by rw [ew_22]; exact st_out) hW_20
    refine lv_aload_n hx hb dX8_outputAt_23 rfl (lv_at hl 0 rfl) ?_
    refine gM_thrown C hW_24 (hwc hwX8) (mc qw_1476) dX8_outputAt_24 ?_
    refine g_top (y := w_22 (0)) (congrFun rd_out _) ?_
    refine g_top (y := 0) kn_23 ?_
    refine lv_if_ne (tgt := 40) hx hb dX8_outputAt_27 (by decide) (fun h9 => absurd h9 (by decide)) (fun _ => ?_)
    refine lv_aload_n hx hb dX8_outputAt_30 rfl (lv_at hl 0 rfl) ?_
    refine gM_line C hW_24 (hwc hwX8) (mc qw_1488) dX8_outputAt_31 ?_
    refine lv_iload_n hx hb dX8_outputAt_34 rfl (lv_at hl 1 rfl) ?_
    refine gm_lineld C hW_24 f_17 (nI_clamp (by omega)) (vp_in_nI (show f_17 < 40 by omega) (by decide)) dX8_outputAt_35 ?_
    refine g_top (y := X.1 23 (f_17)) (congrFun (rd_in (by decide) rfl) _) ?_
    refine lv_i2c (v := chW (X.1 23 (f_17))) hx hb dX8_outputAt_36 rfl ?_
    refine lv_goto (tgt := 42) hx hb dX8_outputAt_37 (by decide) ?_
    exact g_zret C hr hlk hW_24 hS_21 dX8_outputAt_42 (nar_ch _) (by subst ew_22; exact ⟨(by first | rfl | (simp only [oM_outputAt, clf (show f_17 < 2 ^ 31 by omega), b_9, if_true, if_false]; first | done | rfl)), (by first | rfl | (simp only [oM_outputAt, clf (show f_17 < 2 ^ 31 by omega), b_9, if_true, if_false]; first | done | rfl))⟩)

def oM_type (w15 : Nat → Int32) (w22 : Nat → Int32) (x : Int32) : Int32 × ((Nat → Int32) × (Nat → Int32)) := if oM_isIn x 32 126 = 0 then (0, (upd (w15) (0) 1), w22) else (if w15 5 = 60 then (0, (upd (w15) (0) 2), w22) else (nI (((w15 5).toNatClampNeg) + 1), (upd (upd (w15) (0) 0) (5) (nI (((w15 5).toNatClampNeg) + 1))), (upd (w22) (((w15 5).toNatClampNeg)) x)))
set_option maxHeartbeats 4000000 in
set_option maxRecDepth 100000 in
theorem cX8_type_ok (l : Launch) (G : GT) (X : St) (x : Int32) (L : Nat) (hL : L ≤ 60) (eL : X.1 15 5 = nI L) : MetI l G yX8_type (wsG yX8_type cX8_type 2 (some .int)) (rmz 1 22) [.ref (ad G 723), .int x] X (fun res Y => res = (oM_type (X.1 15) (X.1 22) x).1 ∧ Y = setRow (setRow (X) 15 ((oM_type (X.1 15) (X.1 22) x).2.1)) 22 ((oM_type (X.1 15) (X.1 22) x).2.2)) := by
  refine g_met (cc := cX8_type) (maxL := 2) (ret := (some .int)) (by decide) rfl (Nat.le_of_ble_eq_true rfl) ?_
  intro p e s m below meth c ls C hr hlk hnm hW hl
  have hx := C.1.1
  have hb := C.1.2.1
  have hS : va_S (Ab G) s.heap s.heap [] := va_S.rf
  have hl : lv_has ls 2 [(0, .ref (ad G 723)), (1, .int x)] := hl
  have hW : Wd G (setRow (setRow (X) 15 (X.1 15)) 22 (X.1 22)) s.heap := Wd.cast (((sr_same (X := setRow (X) 15 (X.1 15)) (r := 22) rfl).trans (sr_same (X := X) (r := 15) rfl))).symm hW
  refine lv_aload_n hx hb dX8_type_0 rfl (lv_at hl 0 rfl) ?_
  refine lv_iload_n hx hb dX8_type_1 rfl (lv_at hl 1 rfl) ?_
  refine lv_bipush (v := 32) hx hb dX8_type_2 (by decide) ?_
  refine lv_bipush (v := 126) hx hb dX8_type_4 (by decide) ?_
  refine g_calli (va_runS (As := [.int x, .int 32, .int 126]) (rest := [.ref (ad G 723)]) C.1 (cX8_isIn_ok l G (setRow (setRow X 15 (X.1 15)) 22 (X.1 22)) x 32 126) (va_cwS 3 C.1.2.2.2.2 (gS qw_1568 qw_1569 qw_81 qw_1570) rfl rfl rfl (by decide +kernel) ⟨Nat.le_of_ble_eq_true rfl, Nat.le_of_ble_eq_true rfl⟩) (g_pre C hW hS [.int x, .int 32, .int 126]) rfl rfl hl.1 rfl (lv_room (Nat.le_of_ble_eq_true rfl)) dX8_type_6 ⟨Nat.zero_le _, Nat.zero_le _⟩) hS (fun r_2 Y_3 H_4 locs_5 hW_6 hS_7 h_1 => ?_)
  obtain ⟨h_1, hy_8⟩ := h_1
  replace hy_8 := hy_8.symm
  subst hy_8
  replace h_1 : r_2 = oM_isIn x 32 126 := h_1
  subst h_1
  refine lv_if_ne (tgt := 16) hx hb dX8_type_9 (by decide) (fun b_9 => ?_) (fun b_9 => ?_)
  · refine lv_aload_n hx hb dX8_type_16 rfl (lv_at hl 0 rfl) ?_
    refine gM_textN C hW_6 (hwc hwX8) (mc qw_1492) dX8_type_17 ?_
    refine g_top (y := X.1 15 (5)) (congrFun (rd_in (by decide) rd_out) _) ?_
    refine g_top (y := nI L) eL ?_
    refine lv_bipush (v := 60) hx hb dX8_type_20 (by decide) ?_
    refine lv_icmp_ne (tgt := 29) hx hb dX8_type_22 (by decide) (fun b_10 => ?_) (fun b_10 => ?_)
    · have hL6 : L < 60 := Nat.lt_of_le_of_ne hL (fun q => b_10 (by rw [q]; rfl))
      refine lv_iconst (v := 0) hx hb dX8_type_29 (by decide) ?_
      refine gM_thrownP C hW_6 hS_7 (hwc hwX8) (mc qw_1476) dX8_type_30 (fun H_11 locs_12 hW_13 hS_14 => ?_)
      obtain ⟨w_15, ew_15⟩ : ∃ Z9, Z9 = upd (X.1 15) (0) 0 := ⟨_, rfl⟩
      have kn_16 : w_15 (5) = nI L := by rw [ew_15]; exact (pk_un (by omega)).trans eL
      have kn_17 : w_15 (0) = 0 := by rw [ew_15]; exact pk_us
      have hW_18 : Wd G (setRow (setRow X 15 w_15) 22 (X.1 22)) H_11 := Wd.cast (by rw [ew_15]; exact (st_in (by decide) st_out)) hW_13
      refine lv_aload_n hx hb dX8_type_33 rfl (lv_at hl 0 rfl) ?_
      refine gM_thrown C hW_18 (hwc hwX8) (mc qw_1476) dX8_type_34 ?_
      refine g_top (y := w_15 (0)) (congrFun (rd_in (by decide) rd_out) _) ?_
      refine g_top (y := 0) kn_17 ?_
      refine lv_if_eq (tgt := 42) hx hb dX8_type_37 (by decide) (fun _ => ?_) (fun h9 => absurd h9 (by decide))
      refine lv_aload_n hx hb dX8_type_42 rfl (lv_at hl 0 rfl) ?_
      refine gM_text C hW_18 (hwc hwX8) (mc qw_1487) dX8_type_43 ?_
      refine lv_aload_n hx hb dX8_type_46 rfl (lv_at hl 0 rfl) ?_
      refine gM_textN C hW_18 (hwc hwX8) (mc qw_1492) dX8_type_47 ?_
      refine g_top (y := w_15 (5)) (congrFun (rd_in (by decide) rd_out) _) ?_
      refine g_top (y := nI L) kn_16 ?_
      refine lv_iload_n hx hb dX8_type_50 rfl (lv_at hl 1 rfl) ?_
      refine gm_mtextst C hW_18 hS_14 L (nI_clamp (by omega)) (vp_in_nI (show L < 60 by omega) (by decide)) dX8_type_51 (fun H_19 locs_20 hW_21 hS_22 => ?_)
      obtain ⟨w_23, ew_23⟩ : ∃ Z9, Z9 = upd (X.1 22) (L) x := ⟨_, rfl⟩
      have hW_24 : Wd G (setRow (setRow X 15 w_15) 22 w_23) H_19 := Wd.cast (by rw [ew_23]; exact st_out) hW_21
      refine lv_aload_n hx hb dX8_type_52 rfl (lv_at hl 0 rfl) ?_
      refine lv_dup hx hb dX8_type_53 rfl ?_
      refine gM_textN C hW_24 (hwc hwX8) (mc qw_1492) dX8_type_54 ?_
      refine g_top (y := w_15 (5)) (congrFun (rd_in (by decide) rd_out) _) ?_
      refine g_top (y := nI L) kn_16 ?_
      refine lv_iconst (v := 1) hx hb dX8_type_57 (by decide) ?_
      refine lv_iadd hx hb dX8_type_58 ?_
      refine g_top (y := nI (L + 1)) (nI_add L 1) ?_
      refine gM_textNP C hW_24 hS_22 (hwc hwX8) (mc qw_1492) dX8_type_59 (fun H_25 locs_26 hW_27 hS_28 => ?_)
      obtain ⟨w_29, ew_29⟩ : ∃ Z9, Z9 = upd w_15 (5) (nI (L + 1)) := ⟨_, rfl⟩
      have kn_30 : w_29 (0) = 0 := by rw [ew_29]; exact (pk_un (by omega)).trans kn_17
      have kn_31 : w_29 (5) = nI (L + 1) := by rw [ew_29]; exact pk_us
      have hW_32 : Wd G (setRow (setRow X 15 w_29) 22 w_23) H_25 := Wd.cast (by rw [ew_29]; exact (st_in (by decide) st_out)) hW_27
      refine lv_aload_n hx hb dX8_type_62 rfl (lv_at hl 0 rfl) ?_
      refine gM_textN C hW_32 (hwc hwX8) (mc qw_1492) dX8_type_63 ?_
      refine g_top (y := w_29 (5)) (congrFun (rd_in (by decide) rd_out) _) ?_
      refine g_top (y := nI (L + 1)) kn_31 ?_
      exact g_iret C hr hlk hW_32 hS_28 dX8_type_66 (by subst ew_29; subst ew_23; subst ew_15; exact ⟨(by first | rfl | (simp only [oM_type, b_9, b_10, if_true, if_false, eL, clf (show L < 2 ^ 31 by omega), nI_1]; first | done | rfl)), (by first | rfl | (simp only [oM_type, b_9, b_10, if_true, if_false, eL, clf (show L < 2 ^ 31 by omega), nI_1]; first | done | rfl))⟩)
    · have fb_10 : L = 60 := (nI_eq (a := L) (b := 60) (by omega) (by omega)).mp b_10
      refine lv_iconst (v := 2) hx hb dX8_type_25 (by decide) ?_
      refine lv_goto (tgt := 30) hx hb dX8_type_26 (by decide) ?_
      refine gM_thrownP C hW_6 hS_7 (hwc hwX8) (mc qw_1476) dX8_type_30 (fun H_33 locs_34 hW_35 hS_36 => ?_)
      obtain ⟨w_37, ew_37⟩ : ∃ Z9, Z9 = upd (X.1 15) (0) 2 := ⟨_, rfl⟩
      have kn_38 : w_37 (5) = nI L := by rw [ew_37]; exact (pk_un (by omega)).trans eL
      have kn_39 : w_37 (0) = 2 := by rw [ew_37]; exact pk_us
      have hW_40 : Wd G (setRow (setRow X 15 w_37) 22 (X.1 22)) H_33 := Wd.cast (by rw [ew_37]; exact (st_in (by decide) st_out)) hW_35
      refine lv_aload_n hx hb dX8_type_33 rfl (lv_at hl 0 rfl) ?_
      refine gM_thrown C hW_40 (hwc hwX8) (mc qw_1476) dX8_type_34 ?_
      refine g_top (y := w_37 (0)) (congrFun (rd_in (by decide) rd_out) _) ?_
      refine g_top (y := 2) kn_39 ?_
      refine lv_if_eq (tgt := 42) hx hb dX8_type_37 (by decide) (fun h9 => absurd h9 (by decide)) (fun _ => ?_)
      refine lv_iconst (v := 0) hx hb dX8_type_40 (by decide) ?_
      exact g_iret C hr hlk hW_40 hS_36 dX8_type_41 (by subst ew_37; exact ⟨(by first | rfl | (simp only [oM_type, b_9, eq_true b_10, if_true, if_false, eL, clf (show L < 2 ^ 31 by omega), nI_1]; first | done | rfl)), (by first | rfl | (simp only [oM_type, b_9, eq_true b_10, if_true, if_false, eL, clf (show L < 2 ^ 31 by omega), nI_1]; first | done | rfl))⟩)
  · refine lv_iconst (v := 1) hx hb dX8_type_12 (by decide) ?_
    refine lv_goto (tgt := 30) hx hb dX8_type_13 (by decide) ?_
    refine gM_thrownP C hW_6 hS_7 (hwc hwX8) (mc qw_1476) dX8_type_30 (fun H_41 locs_42 hW_43 hS_44 => ?_)
    obtain ⟨w_45, ew_45⟩ : ∃ Z9, Z9 = upd (X.1 15) (0) 1 := ⟨_, rfl⟩
    have kn_46 : w_45 (5) = nI L := by rw [ew_45]; exact (pk_un (by omega)).trans eL
    have kn_47 : w_45 (0) = 1 := by rw [ew_45]; exact pk_us
    have hW_48 : Wd G (setRow (setRow X 15 w_45) 22 (X.1 22)) H_41 := Wd.cast (by rw [ew_45]; exact (st_in (by decide) st_out)) hW_43
    refine lv_aload_n hx hb dX8_type_33 rfl (lv_at hl 0 rfl) ?_
    refine gM_thrown C hW_48 (hwc hwX8) (mc qw_1476) dX8_type_34 ?_
    refine g_top (y := w_45 (0)) (congrFun (rd_in (by decide) rd_out) _) ?_
    refine g_top (y := 1) kn_47 ?_
    refine lv_if_eq (tgt := 42) hx hb dX8_type_37 (by decide) (fun h9 => absurd h9 (by decide)) (fun _ => ?_)
    refine lv_iconst (v := 0) hx hb dX8_type_40 (by decide) ?_
    exact g_iret C hr hlk hW_48 hS_44 dX8_type_41 (by subst ew_45; exact ⟨(by first | rfl | (simp only [oM_type, eq_true b_9, if_true, if_false, eL, clf (show L < 2 ^ 31 by omega), nI_1]; first | done | rfl)), (by first | rfl | (simp only [oM_type, eq_true b_9, if_true, if_false, eL, clf (show L < 2 ^ 31 by omega), nI_1]; first | done | rfl))⟩)

def oM_errorPosition (w15 : Nat → Int32) : Int32 × (Nat → Int32) := if 0 ≤ w15 (2) then ((upd (w15) (0) 0) (2), (upd (w15) (0) 0)) else (0, (upd (w15) (0) 1))
set_option maxHeartbeats 4000000 in
set_option maxRecDepth 100000 in
theorem cX8_errorPosition_ok (l : Launch) (G : GT) (X : St) : MetI l G yX8_errorPosition (wsG yX8_errorPosition cX8_errorPosition 1 (some .int)) (rmz 0 0) [.ref (ad G 723)] X (fun res Y => res = (oM_errorPosition (X.1 15)).1 ∧ Y = setRow (X) 15 ((oM_errorPosition (X.1 15)).2)) := by
  refine g_met (cc := cX8_errorPosition) (maxL := 1) (ret := (some .int)) (by decide) rfl (Nat.le_of_ble_eq_true rfl) ?_
  intro p e s m below meth c ls C hr hlk hnm hW hl
  have hx := C.1.1
  have hb := C.1.2.1
  have hS : va_S (Ab G) s.heap s.heap [] := va_S.rf
  have hl : lv_has ls 1 [(0, .ref (ad G 723))] := hl
  have hW : Wd G (setRow (X) 15 (X.1 15)) s.heap := Wd.cast ((sr_same (X := X) (r := 15) rfl)).symm hW
  refine lv_aload_n hx hb dX8_errorPosition_0 rfl (lv_at hl 0 rfl) ?_
  refine lv_aload_n hx hb dX8_errorPosition_1 rfl (lv_at hl 0 rfl) ?_
  refine gM_errorAt C hW (hwc hwX8) (mc qw_1478) dX8_errorPosition_2 ?_
  refine g_top (y := X.1 15 (2)) (congrFun rd_out _) ?_
  refine lv_if_ge (tgt := 12) hx hb dX8_errorPosition_5 (by decide) (fun b_1 => ?_) (fun b_1 => ?_)
  · refine lv_iconst (v := 0) hx hb dX8_errorPosition_12 (by decide) ?_
    refine gM_thrownP C hW hS (hwc hwX8) (mc qw_1476) dX8_errorPosition_13 (fun H_2 locs_3 hW_4 hS_5 => ?_)
    obtain ⟨w_6, ew_6⟩ : ∃ Z9, Z9 = upd (X.1 15) (0) 0 := ⟨_, rfl⟩
    have kn_7 : w_6 (0) = 0 := by rw [ew_6]; exact pk_us
    have hW_8 : Wd G (setRow X 15 w_6) H_2 := Wd.cast (by rw [ew_6]; exact st_out) hW_4
    refine lv_aload_n hx hb dX8_errorPosition_16 rfl (lv_at hl 0 rfl) ?_
    refine gM_thrown C hW_8 (hwc hwX8) (mc qw_1476) dX8_errorPosition_17 ?_
    refine g_top (y := w_6 (0)) (congrFun rd_out _) ?_
    refine g_top (y := 0) kn_7 ?_
    refine lv_if_ne (tgt := 30) hx hb dX8_errorPosition_20 (by decide) (fun h9 => absurd h9 (by decide)) (fun _ => ?_)
    refine lv_aload_n hx hb dX8_errorPosition_23 rfl (lv_at hl 0 rfl) ?_
    refine gM_errorAt C hW_8 (hwc hwX8) (mc qw_1478) dX8_errorPosition_24 ?_
    refine g_top (y := w_6 (2)) (congrFun rd_out _) ?_
    refine lv_goto (tgt := 31) hx hb dX8_errorPosition_27 (by decide) ?_
    exact g_iret C hr hlk hW_8 hS_5 dX8_errorPosition_31 (by subst ew_6; exact ⟨(by first | rfl | (simp only [oM_errorPosition, b_1, if_true, if_false]; first | done | rfl)), (by first | rfl | (simp only [oM_errorPosition, b_1, if_true, if_false]; first | done | rfl))⟩)
  · refine lv_iconst (v := 1) hx hb dX8_errorPosition_8 (by decide) ?_
    refine lv_goto (tgt := 13) hx hb dX8_errorPosition_9 (by decide) ?_
    refine gM_thrownP C hW hS (hwc hwX8) (mc qw_1476) dX8_errorPosition_13 (fun H_9 locs_10 hW_11 hS_12 => ?_)
    obtain ⟨w_13, ew_13⟩ : ∃ Z9, Z9 = upd (X.1 15) (0) 1 := ⟨_, rfl⟩
    have kn_14 : w_13 (0) = 1 := by rw [ew_13]; exact pk_us
    have hW_15 : Wd G (setRow X 15 w_13) H_9 := Wd.cast (by rw [ew_13]; exact st_out) hW_11
    refine lv_aload_n hx hb dX8_errorPosition_16 rfl (lv_at hl 0 rfl) ?_
    refine gM_thrown C hW_15 (hwc hwX8) (mc qw_1476) dX8_errorPosition_17 ?_
    refine g_top (y := w_13 (0)) (congrFun rd_out _) ?_
    refine g_top (y := 1) kn_14 ?_
    refine lv_if_ne (tgt := 30) hx hb dX8_errorPosition_20 (by decide) (fun _ => ?_) (fun h9 => absurd h9 (by decide))
    refine lv_iconst (v := 0) hx hb dX8_errorPosition_30 (by decide) ?_
    exact g_iret C hr hlk hW_15 hS_12 dX8_errorPosition_31 (by subst ew_13; exact ⟨(by first | rfl | (simp only [oM_errorPosition, b_1, if_true, if_false]; first | done | rfl)), (by first | rfl | (simp only [oM_errorPosition, b_1, if_true, if_false]; first | done | rfl))⟩)

def oM_failedCommand (w15 : Nat → Int32) : Int32 × (Nat → Int32) := if 0 ≤ w15 (3) then ((upd (w15) (0) 0) (3), (upd (w15) (0) 0)) else (0, (upd (w15) (0) 1))
set_option maxHeartbeats 4000000 in
set_option maxRecDepth 100000 in
theorem cX8_failedCommand_ok (l : Launch) (G : GT) (X : St) : MetI l G yX8_failedCommand (wsG yX8_failedCommand cX8_failedCommand 1 (some .int)) (rmz 0 0) [.ref (ad G 723)] X (fun res Y => res = (oM_failedCommand (X.1 15)).1 ∧ Y = setRow (X) 15 ((oM_failedCommand (X.1 15)).2)) := by
  refine g_met (cc := cX8_failedCommand) (maxL := 1) (ret := (some .int)) (by decide) rfl (Nat.le_of_ble_eq_true rfl) ?_
  intro p e s m below meth c ls C hr hlk hnm hW hl
  have hx := C.1.1
  have hb := C.1.2.1
  have hS : va_S (Ab G) s.heap s.heap [] := va_S.rf
  have hl : lv_has ls 1 [(0, .ref (ad G 723))] := hl
  have hW : Wd G (setRow (X) 15 (X.1 15)) s.heap := Wd.cast ((sr_same (X := X) (r := 15) rfl)).symm hW
  refine lv_aload_n hx hb dX8_failedCommand_0 rfl (lv_at hl 0 rfl) ?_
  refine lv_aload_n hx hb dX8_failedCommand_1 rfl (lv_at hl 0 rfl) ?_
  refine gM_failedAt C hW (hwc hwX8) (mc qw_1479) dX8_failedCommand_2 ?_
  refine g_top (y := X.1 15 (3)) (congrFun rd_out _) ?_
  refine lv_if_ge (tgt := 12) hx hb dX8_failedCommand_5 (by decide) (fun b_1 => ?_) (fun b_1 => ?_)
  · refine lv_iconst (v := 0) hx hb dX8_failedCommand_12 (by decide) ?_
    refine gM_thrownP C hW hS (hwc hwX8) (mc qw_1476) dX8_failedCommand_13 (fun H_2 locs_3 hW_4 hS_5 => ?_)
    obtain ⟨w_6, ew_6⟩ : ∃ Z9, Z9 = upd (X.1 15) (0) 0 := ⟨_, rfl⟩
    have kn_7 : w_6 (0) = 0 := by rw [ew_6]; exact pk_us
    have hW_8 : Wd G (setRow X 15 w_6) H_2 := Wd.cast (by rw [ew_6]; exact st_out) hW_4
    refine lv_aload_n hx hb dX8_failedCommand_16 rfl (lv_at hl 0 rfl) ?_
    refine gM_thrown C hW_8 (hwc hwX8) (mc qw_1476) dX8_failedCommand_17 ?_
    refine g_top (y := w_6 (0)) (congrFun rd_out _) ?_
    refine g_top (y := 0) kn_7 ?_
    refine lv_if_ne (tgt := 30) hx hb dX8_failedCommand_20 (by decide) (fun h9 => absurd h9 (by decide)) (fun _ => ?_)
    refine lv_aload_n hx hb dX8_failedCommand_23 rfl (lv_at hl 0 rfl) ?_
    refine gM_failedAt C hW_8 (hwc hwX8) (mc qw_1479) dX8_failedCommand_24 ?_
    refine g_top (y := w_6 (3)) (congrFun rd_out _) ?_
    refine lv_goto (tgt := 31) hx hb dX8_failedCommand_27 (by decide) ?_
    exact g_iret C hr hlk hW_8 hS_5 dX8_failedCommand_31 (by subst ew_6; exact ⟨(by first | rfl | (simp only [oM_failedCommand, b_1, if_true, if_false]; first | done | rfl)), (by first | rfl | (simp only [oM_failedCommand, b_1, if_true, if_false]; first | done | rfl))⟩)
  · refine lv_iconst (v := 1) hx hb dX8_failedCommand_8 (by decide) ?_
    refine lv_goto (tgt := 13) hx hb dX8_failedCommand_9 (by decide) ?_
    refine gM_thrownP C hW hS (hwc hwX8) (mc qw_1476) dX8_failedCommand_13 (fun H_9 locs_10 hW_11 hS_12 => ?_)
    obtain ⟨w_13, ew_13⟩ : ∃ Z9, Z9 = upd (X.1 15) (0) 1 := ⟨_, rfl⟩
    have kn_14 : w_13 (0) = 1 := by rw [ew_13]; exact pk_us
    have hW_15 : Wd G (setRow X 15 w_13) H_9 := Wd.cast (by rw [ew_13]; exact st_out) hW_11
    refine lv_aload_n hx hb dX8_failedCommand_16 rfl (lv_at hl 0 rfl) ?_
    refine gM_thrown C hW_15 (hwc hwX8) (mc qw_1476) dX8_failedCommand_17 ?_
    refine g_top (y := w_13 (0)) (congrFun rd_out _) ?_
    refine g_top (y := 1) kn_14 ?_
    refine lv_if_ne (tgt := 30) hx hb dX8_failedCommand_20 (by decide) (fun _ => ?_) (fun h9 => absurd h9 (by decide))
    refine lv_iconst (v := 0) hx hb dX8_failedCommand_30 (by decide) ?_
    exact g_iret C hr hlk hW_15 hS_12 dX8_failedCommand_31 (by subst ew_13; exact ⟨(by first | rfl | (simp only [oM_failedCommand, b_1, if_true, if_false]; first | done | rfl)), (by first | rfl | (simp only [oM_failedCommand, b_1, if_true, if_false]; first | done | rfl))⟩)

def oM_undo (w15 : Nat → Int32) (w16 : Nat → Int32) (w19 : Nat → Int32) : Int32 × ((Nat → Int32) × (Nat → Int32)) := 
  if w15 1 = 0 then (0, upd w15 0 1, w16)
  else (nI ((w15 1).toNatClampNeg - 1), upd (upd w15 0 0) 1 (nI ((w15 1).toNatClampNeg - 1)), cpT 128 w16 (fun j => w19 (((w15 1).toNatClampNeg - 1) * 128 + j)))
set_option maxHeartbeats 4000000 in
set_option maxRecDepth 100000 in
theorem cX8_undo_ok (l : Launch) (G : GT) (X : St) (cg : Nat) (hc : cg ≤ 8) (ec : X.1 15 1 = nI cg) : MetI l G yX8_undo (wsG yX8_undo cX8_undo 2 (some .int)) (rmz 0 0) [.ref (ad G 723)] X (fun res Y => res = (oM_undo (X.1 15) (X.1 16) (X.1 19)).1 ∧ Y = setRow (setRow (X) 15 ((oM_undo (X.1 15) (X.1 16) (X.1 19)).2.1)) 16 ((oM_undo (X.1 15) (X.1 16) (X.1 19)).2.2)) := by
  refine g_met (cc := cX8_undo) (maxL := 2) (ret := (some .int)) (by decide) rfl (Nat.le_of_ble_eq_true rfl) ?_
  intro p e s m below meth c ls C hr hlk hnm hW hl
  have hx := C.1.1
  have hb := C.1.2.1
  have hS : va_S (Ab G) s.heap s.heap [] := va_S.rf
  have hl : lv_has ls 2 [(0, .ref (ad G 723))] := hl
  have hW : Wd G (setRow (setRow (X) 15 (X.1 15)) 16 (X.1 16)) s.heap := Wd.cast (((sr_same (X := setRow (X) 15 (X.1 15)) (r := 16) rfl).trans (sr_same (X := X) (r := 15) rfl))).symm hW
  refine lv_aload_n hx hb dX8_undo_0 rfl (lv_at hl 0 rfl) ?_
  refine lv_aload_n hx hb dX8_undo_1 rfl (lv_at hl 0 rfl) ?_
  refine gM_changes C hW (hwc hwX8) (mc qw_1477) dX8_undo_2 ?_
  refine g_top (y := X.1 15 (1)) (congrFun (rd_in (by decide) rd_out) _) ?_
  refine g_top (y := nI cg) ec ?_
  refine lv_if_ne (tgt := 12) hx hb dX8_undo_5 (by decide) (fun b_1 => ?_) (fun b_1 => ?_)
  · have fb_1 : ¬ cg = 0 := fun q9 => b_1 ((nI_eq (a := cg) (b := 0) (by omega) (by omega)).mpr q9)
    refine lv_iconst (v := 0) hx hb dX8_undo_12 (by decide) ?_
    refine gM_thrownP C hW hS (hwc hwX8) (mc qw_1476) dX8_undo_13 (fun H_2 locs_3 hW_4 hS_5 => ?_)
    obtain ⟨w_6, ew_6⟩ : ∃ Z9, Z9 = upd (X.1 15) (0) 0 := ⟨_, rfl⟩
    have kn_7 : w_6 (1) = nI cg := by rw [ew_6]; exact (pk_un (by omega)).trans ec
    have kn_8 : w_6 (0) = 0 := by rw [ew_6]; exact pk_us
    have hW_9 : Wd G (setRow (setRow X 15 w_6) 16 (X.1 16)) H_2 := Wd.cast (by rw [ew_6]; exact (st_in (by decide) st_out)) hW_4
    refine lv_aload_n hx hb dX8_undo_16 rfl (lv_at hl 0 rfl) ?_
    refine gM_thrown C hW_9 (hwc hwX8) (mc qw_1476) dX8_undo_17 ?_
    refine g_top (y := w_6 (0)) (congrFun (rd_in (by decide) rd_out) _) ?_
    refine g_top (y := 0) kn_8 ?_
    refine lv_if_eq (tgt := 25) hx hb dX8_undo_20 (by decide) (fun _ => ?_) (fun h9 => absurd h9 (by decide))
    refine lv_aload_n hx hb dX8_undo_25 rfl (lv_at hl 0 rfl) ?_
    refine lv_dup hx hb dX8_undo_26 rfl ?_
    refine gM_changes C hW_9 (hwc hwX8) (mc qw_1477) dX8_undo_27 ?_
    refine g_top (y := w_6 (1)) (congrFun (rd_in (by decide) rd_out) _) ?_
    refine g_top (y := nI cg) kn_7 ?_
    refine lv_iconst (v := 1) hx hb dX8_undo_30 (by decide) ?_
    refine lv_isub hx hb dX8_undo_31 ?_
    refine g_top (y := nI (cg - 1)) (pk_sub (a := cg) (b := 1) (by omega)) ?_
    refine gM_changesP C hW_9 hS_5 (hwc hwX8) (mc qw_1477) dX8_undo_32 (fun H_10 locs_11 hW_12 hS_13 => ?_)
    obtain ⟨w_14, ew_14⟩ : ∃ Z9, Z9 = upd w_6 (1) (nI (cg - 1)) := ⟨_, rfl⟩
    have kn_15 : w_14 (0) = 0 := by rw [ew_14]; exact (pk_un (by omega)).trans kn_8
    have kn_16 : w_14 (1) = nI (cg - 1) := by rw [ew_14]; exact pk_us
    have hW_17 : Wd G (setRow (setRow X 15 w_14) 16 (X.1 16)) H_10 := Wd.cast (by rw [ew_14]; exact (st_in (by decide) st_out)) hW_12
    refine lv_iconst (v := 0) hx hb dX8_undo_35 (by decide) ?_
    refine lv_istore_n (lv' := [(1, .int 0), (0, .ref (ad G 723))]) hx hb dX8_undo_36 rfl hl (by decide) rfl (fun ls_18 hl_19 => ?_)
    have loop : ∀ (q : Nat) (kk : Nat) (zz : Nat → Int32) (H : Heap) (locs : List Loc) (ls : Array Slot), kk + q = 128 → zz = cpT kk (X.1 16) (fun j => X.1 19 ((cg - 1) * 128 + j)) → Wd G (setRow (setRow X 15 w_14) 16 zz) H → va_S (Ab G) s.heap H locs → lv_has ls 2 [(1, .int (nI kk)), (0, .ref (ad G 723))] → W p l e (rmz 0 0) s m ([.ref (ad G 723)] : List Value).toArray below meth c H locs 0 0 (MQ below (Ki G (fun res Y => res = (oM_undo (X.1 15) (X.1 16) (X.1 19)).1 ∧ Y = setRow (setRow (X) 15 ((oM_undo (X.1 15) (X.1 16) (X.1 19)).2.1)) 16 ((oM_undo (X.1 15) (X.1 16) (X.1 19)).2.2))) ([.ref (ad G 723)] : List Value).toArray s 0 0 (Ab G)) (F0 m 37 ls []) := by
      intro q
      induction q with
      | zero =>
        intro kk zz H locs ls hq hz hW hS hl
        have hkk : kk = 128 := by omega
        refine lv_iload_n hx hb dX8_undo_37 rfl (lv_at hl 0 rfl) ?_
        refine lv_sipush (v := 128) hx hb dX8_undo_38 (by decide) ?_
        refine lv_icmp_ge (tgt := 71) hx hb dX8_undo_41 (by decide) (fun _ => ?_) (fun h9 => absurd (nI_le (a := 128) (b := kk) (by omega) (by omega)) h9)
        refine lv_aload_n hx hb dX8_undo_71 rfl (lv_at hl 1 rfl) ?_
        refine gM_changes C hW (hwc hwX8) (mc qw_1477) dX8_undo_72 ?_
        refine g_top (y := w_14 (1)) (congrFun (rd_in (by decide) rd_out) _) ?_
        refine g_top (y := nI (cg - 1)) kn_16 ?_
        exact g_iret C hr hlk hW hS dX8_undo_75 (by subst hkk; subst hz; subst ew_14; subst ew_6; exact ⟨(by simp only [oM_undo, ec, clf (show cg < 2 ^ 31 by omega), b_1, if_true, if_false]; first | done | rfl), (by simp only [oM_undo, ec, clf (show cg < 2 ^ 31 by omega), b_1, if_true, if_false]; first | done | rfl)⟩)
      | succ q ih =>
        intro kk zz H locs ls hq hz hW hS hl
        refine lv_iload_n hx hb dX8_undo_37 rfl (lv_at hl 0 rfl) ?_
        refine lv_sipush (v := 128) hx hb dX8_undo_38 (by decide) ?_
        refine lv_icmp_ge (tgt := 71) hx hb dX8_undo_41 (by decide) (fun h9 => absurd h9 (nI_ge (a := kk) (b := 128) (by omega) (by omega))) (fun _ => ?_)
        refine lv_aload_n hx hb dX8_undo_44 rfl (lv_at hl 1 rfl) ?_
        refine gM_v C hW (hwc hwX8) (mc qw_1481) dX8_undo_45 ?_
        refine lv_iload_n hx hb dX8_undo_48 rfl (lv_at hl 0 rfl) ?_
        refine lv_aload_n hx hb dX8_undo_49 rfl (lv_at hl 1 rfl) ?_
        refine gM_past C hW (hwc hwX8) (mc qw_1484) dX8_undo_50 ?_
        refine lv_aload_n hx hb dX8_undo_53 rfl (lv_at hl 1 rfl) ?_
        refine gM_changes C hW (hwc hwX8) (mc qw_1477) dX8_undo_54 ?_
        refine g_top (y := w_14 (1)) (congrFun (rd_in (by decide) rd_out) _) ?_
        refine g_top (y := nI (cg - 1)) kn_16 ?_
        refine lv_sipush (v := 128) hx hb dX8_undo_57 (by decide) ?_
        refine lv_imul hx hb dX8_undo_60 ?_
        refine g_top (y := nI ((cg - 1) * 128)) (pk_mul (cg - 1) 128) ?_
        refine lv_iload_n hx hb dX8_undo_61 rfl (lv_at hl 0 rfl) ?_
        refine lv_iadd hx hb dX8_undo_62 ?_
        refine g_top (y := nI (((cg - 1) * 128) + kk)) (nI_add ((cg - 1) * 128) kk) ?_
        refine gm_pastld C hW (((cg - 1) * 128) + kk) (nI_clamp (by omega)) (vp_in_nI (show ((cg - 1) * 128) + kk < 1024 by omega) (by decide)) dX8_undo_63 ?_
        refine g_top (y := X.1 19 (((cg - 1) * 128) + kk)) (congrFun (rd_in (by decide) (rd_in (by decide) rfl)) _) ?_
        refine gm_vst C hW hS kk (nI_clamp (by omega)) (vp_in_nI (show kk < 128 by omega) (by decide)) dX8_undo_64 (fun H_20 locs_21 hW_22 hS_23 => ?_)
        obtain ⟨w_24, ew_24⟩ : ∃ Z9, Z9 = upd zz (kk) (X.1 19 (((cg - 1) * 128) + kk)) := ⟨_, rfl⟩
        have hW_25 : Wd G (setRow (setRow X 15 w_14) 16 w_24) H_20 := Wd.cast (by rw [ew_24]; exact st_out) hW_22
        refine lv_iinc (v := nI (kk + 1)) (lv' := [(1, .int (nI (kk + 1))), (0, .ref (ad G 723))]) hx hb dX8_undo_65 hl (k := 0) rfl (nI_1 kk) (by decide) rfl (fun ls_26 hl_27 => ?_)
        refine lv_goto (tgt := 37) hx hb dX8_undo_68 (by decide) ?_
        exact ih (kk + 1) w_24 H_20 locs_21 ls_26 (by omega) (by subst ew_24; rw [hz]; exact cpT_s (f := (fun j => X.1 19 ((cg - 1) * 128 + j)))) hW_25 hS_23 (lv_sub hl_27 [0, 1] rfl)
    exact loop 128 0 (X.1 16) H_10 locs_11 ls_18 rfl cpT_0.symm hW_17 hS_13 (lv_sub hl_19 [0, 1] rfl)
  · have fb_1 : cg = 0 := (nI_eq (a := cg) (b := 0) (by omega) (by omega)).mp b_1
    refine lv_iconst (v := 1) hx hb dX8_undo_8 (by decide) ?_
    refine lv_goto (tgt := 13) hx hb dX8_undo_9 (by decide) ?_
    refine gM_thrownP C hW hS (hwc hwX8) (mc qw_1476) dX8_undo_13 (fun H_28 locs_29 hW_30 hS_31 => ?_)
    obtain ⟨w_32, ew_32⟩ : ∃ Z9, Z9 = upd (X.1 15) (0) 1 := ⟨_, rfl⟩
    have kn_33 : w_32 (1) = nI cg := by rw [ew_32]; exact (pk_un (by omega)).trans ec
    have kn_34 : w_32 (0) = 1 := by rw [ew_32]; exact pk_us
    have hW_35 : Wd G (setRow (setRow X 15 w_32) 16 (X.1 16)) H_28 := Wd.cast (by rw [ew_32]; exact (st_in (by decide) st_out)) hW_30
    refine lv_aload_n hx hb dX8_undo_16 rfl (lv_at hl 0 rfl) ?_
    refine gM_thrown C hW_35 (hwc hwX8) (mc qw_1476) dX8_undo_17 ?_
    refine g_top (y := w_32 (0)) (congrFun (rd_in (by decide) rd_out) _) ?_
    refine g_top (y := 1) kn_34 ?_
    refine lv_if_eq (tgt := 25) hx hb dX8_undo_20 (by decide) (fun h9 => absurd h9 (by decide)) (fun _ => ?_)
    refine lv_iconst (v := 0) hx hb dX8_undo_23 (by decide) ?_
    exact g_iret C hr hlk hW_35 hS_31 dX8_undo_24 (by subst ew_32; exact ⟨(by simp only [oM_undo, ec, clf (show cg < 2 ^ 31 by omega), eq_true b_1, if_true, if_false]), (by simp only [oM_undo, ec, clf (show cg < 2 ^ 31 by omega), eq_true b_1, if_true, if_false])⟩)

def oM_save (w15 : Nat → Int32) (w16 : Nat → Int32) (w18 : Nat → Int32) : Int32 × ((Nat → Int32) × (Nat → Int32)) := (w16 (43), (upd (upd (w15) (0) 0) (4) 1), (cpT 128 (w18) (w16)))
set_option maxHeartbeats 4000000 in
set_option maxRecDepth 100000 in
theorem cX8_save_ok (l : Launch) (G : GT) (X : St) : MetI l G yX8_save (wsG yX8_save cX8_save 1 (some .int)) (rmz 1 22) [.ref (ad G 723)] X (fun res Y => res = (oM_save (X.1 15) (X.1 16) (X.1 18)).1 ∧ Y = setRow (setRow (X) 15 ((oM_save (X.1 15) (X.1 16) (X.1 18)).2.1)) 18 ((oM_save (X.1 15) (X.1 16) (X.1 18)).2.2)) := by
  refine g_met (cc := cX8_save) (maxL := 1) (ret := (some .int)) (by decide) rfl (Nat.le_of_ble_eq_true rfl) ?_
  intro p e s m below meth c ls C hr hlk hnm hW hl
  have hx := C.1.1
  have hb := C.1.2.1
  have hS : va_S (Ab G) s.heap s.heap [] := va_S.rf
  have hl : lv_has ls 1 [(0, .ref (ad G 723))] := hl
  have hW : Wd G (setRow (setRow (X) 15 (X.1 15)) 18 (X.1 18)) s.heap := Wd.cast (((sr_same (X := setRow (X) 15 (X.1 15)) (r := 18) rfl).trans (sr_same (X := X) (r := 15) rfl))).symm hW
  refine lv_aload_n hx hb dX8_save_0 rfl (lv_at hl 0 rfl) ?_
  refine lv_iconst (v := 0) hx hb dX8_save_1 (by decide) ?_
  refine gM_thrownP C hW hS (hwc hwX8) (mc qw_1476) dX8_save_2 (fun H_1 locs_2 hW_3 hS_4 => ?_)
  obtain ⟨w_5, ew_5⟩ : ∃ Z9, Z9 = upd (X.1 15) (0) 0 := ⟨_, rfl⟩
  have kn_6 : w_5 (0) = 0 := by rw [ew_5]; exact pk_us
  have hW_7 : Wd G (setRow (setRow X 15 w_5) 18 (X.1 18)) H_1 := Wd.cast (by rw [ew_5]; exact (st_in (by decide) st_out)) hW_3
  refine lv_aload_n hx hb dX8_save_5 rfl (lv_at hl 0 rfl) ?_
  refine gM_saved C hW_7 (hwc hwX8) (mc qw_1483) dX8_save_6 ?_
  refine lv_aload_n hx hb dX8_save_9 rfl (lv_at hl 0 rfl) ?_
  refine gM_v C hW_7 (hwc hwX8) (mc qw_1481) dX8_save_10 ?_
  refine g_callv (va_runS (As := [.ref (ad G 726), .ref (ad G 724)]) (rest := []) C.1 (cX8_lays_saved_v_ok l G (setRow (setRow X 15 w_5) 18 (X.1 18))) (va_cwS 2 C.1.2.2.2.2 (gS qw_1555 qw_1556 qw_81 qw_1557) rfl rfl rfl (by decide +kernel) ⟨Nat.le_of_ble_eq_true rfl, Nat.le_of_ble_eq_true rfl⟩) (g_pre C hW_7 hS_4 [.ref (ad G 726), .ref (ad G 724)]) rfl rfl hl.1 rfl (lv_room (Nat.le_of_ble_eq_true rfl)) dX8_save_13 ⟨Nat.zero_le _, Nat.zero_le _⟩) hS_4 (fun Y_9 H_10 locs_11 hW_12 hS_13 h_8 => ?_)
  rw [show (setRow (setRow X 15 w_5) 18 (X.1 18)).1 18 = X.1 18 from rd_out] at h_8
  rw [show (setRow (setRow X 15 w_5) 18 (X.1 18)).1 16 = X.1 16 from (rd_in (by decide) (rd_in (by decide) rfl))] at h_8
  obtain ⟨w_14, ew_14⟩ : ∃ Z9, Z9 = cpT 128 (X.1 18) (X.1 16) := ⟨_, rfl⟩
  have qqw_14 : Y_9 = setRow (setRow (setRow X 15 w_5) 18 (X.1 18)) 18 w_14 := by rw [h_8, ew_14]
  have hW_15 : Wd G (setRow (setRow X 15 w_5) 18 w_14) H_10 := Wd.cast ((qqw_14).trans (congrArg (fun Z9 => Z9) sr_out)) hW_12
  refine lv_aload_n hx hb dX8_save_16 rfl (lv_at hl 0 rfl) ?_
  refine lv_iconst (v := 1) hx hb dX8_save_17 (by decide) ?_
  refine gM_isSavedP C hW_15 hS_13 (hwc hwX8) (mc qw_1480) rfl rfl dX8_save_18 (fun H_16 locs_17 hW_18 hS_19 => ?_)
  obtain ⟨w_20, ew_20⟩ : ∃ Z9, Z9 = upd w_5 (4) 1 := ⟨_, rfl⟩
  have kn_21 : w_20 (0) = 0 := by rw [ew_20]; exact (pk_un (by omega)).trans kn_6
  have kn_22 : w_20 (4) = 1 := by rw [ew_20]; exact pk_us
  have hW_23 : Wd G (setRow (setRow X 15 w_20) 18 w_14) H_16 := Wd.cast (by rw [ew_20]; exact (st_in (by decide) st_out)) hW_18
  refine lv_aload_n hx hb dX8_save_21 rfl (lv_at hl 0 rfl) ?_
  refine gM_v C hW_23 (hwc hwX8) (mc qw_1481) dX8_save_22 ?_
  refine lv_bipush (v := 43) hx hb dX8_save_25 (by decide) ?_
  refine gm_vld C hW_23 43 (by decide) (vlit (by decide)) dX8_save_27 ?_
  refine g_top (y := X.1 16 (43)) (congrFun (rd_in (by decide) (rd_in (by decide) rfl)) _) ?_
  exact g_iret C hr hlk hW_23 hS_19 dX8_save_28 (by subst ew_20; subst ew_14; subst ew_5; exact ⟨(by first | rfl | (simp only [oM_save, if_true, if_false]; first | done | rfl)), (by first | rfl | (simp only [oM_save, if_true, if_false]; first | done | rfl))⟩)

def oM_restore (w15 : Nat → Int32) (w16 : Nat → Int32) (w18 : Nat → Int32) : Int32 × ((Nat → Int32) × (Nat → Int32)) := if w15 (4) = 0 then (0, (upd (w15) (0) 1), w16) else ((cpT 128 (w16) (w18)) (43), (upd (upd (w15) (0) 0) (1) 0), (cpT 128 (w16) (w18)))
set_option maxHeartbeats 4000000 in
set_option maxRecDepth 100000 in
theorem cX8_restore_ok (l : Launch) (G : GT) (X : St) : MetI l G yX8_restore (wsG yX8_restore cX8_restore 1 (some .int)) (rmz 1 22) [.ref (ad G 723)] X (fun res Y => res = (oM_restore (X.1 15) (X.1 16) (X.1 18)).1 ∧ Y = setRow (setRow (X) 15 ((oM_restore (X.1 15) (X.1 16) (X.1 18)).2.1)) 16 ((oM_restore (X.1 15) (X.1 16) (X.1 18)).2.2)) := by
  refine g_met (cc := cX8_restore) (maxL := 1) (ret := (some .int)) (by decide) rfl (Nat.le_of_ble_eq_true rfl) ?_
  intro p e s m below meth c ls C hr hlk hnm hW hl
  have hx := C.1.1
  have hb := C.1.2.1
  have hS : va_S (Ab G) s.heap s.heap [] := va_S.rf
  have hl : lv_has ls 1 [(0, .ref (ad G 723))] := hl
  have hW : Wd G (setRow (setRow (X) 15 (X.1 15)) 16 (X.1 16)) s.heap := Wd.cast (((sr_same (X := setRow (X) 15 (X.1 15)) (r := 16) rfl).trans (sr_same (X := X) (r := 15) rfl))).symm hW
  refine lv_aload_n hx hb dX8_restore_0 rfl (lv_at hl 0 rfl) ?_
  refine lv_aload_n hx hb dX8_restore_1 rfl (lv_at hl 0 rfl) ?_
  refine gM_isSaved C hW (hwc hwX8) (mc qw_1480) dX8_restore_2 ?_
  refine g_top (y := X.1 15 (4)) (congrFun (rd_in (by decide) rd_out) _) ?_
  refine lv_if_eq (tgt := 12) hx hb dX8_restore_5 (by decide) (fun b_1 => ?_) (fun b_1 => ?_)
  · refine lv_iconst (v := 1) hx hb dX8_restore_12 (by decide) ?_
    refine gM_thrownP C hW hS (hwc hwX8) (mc qw_1476) dX8_restore_13 (fun H_2 locs_3 hW_4 hS_5 => ?_)
    obtain ⟨w_6, ew_6⟩ : ∃ Z9, Z9 = upd (X.1 15) (0) 1 := ⟨_, rfl⟩
    have kn_7 : w_6 (0) = 1 := by rw [ew_6]; exact pk_us
    have hW_8 : Wd G (setRow (setRow X 15 w_6) 16 (X.1 16)) H_2 := Wd.cast (by rw [ew_6]; exact (st_in (by decide) st_out)) hW_4
    refine lv_aload_n hx hb dX8_restore_16 rfl (lv_at hl 0 rfl) ?_
    refine gM_thrown C hW_8 (hwc hwX8) (mc qw_1476) dX8_restore_17 ?_
    refine g_top (y := w_6 (0)) (congrFun (rd_in (by decide) rd_out) _) ?_
    refine g_top (y := 1) kn_7 ?_
    refine lv_if_eq (tgt := 25) hx hb dX8_restore_20 (by decide) (fun h9 => absurd h9 (by decide)) (fun _ => ?_)
    refine lv_iconst (v := 0) hx hb dX8_restore_23 (by decide) ?_
    exact g_iret C hr hlk hW_8 hS_5 dX8_restore_24 (by subst ew_6; exact ⟨(by first | rfl | (simp only [oM_restore, eq_true b_1, if_true, if_false]; first | done | rfl)), (by first | rfl | (simp only [oM_restore, eq_true b_1, if_true, if_false]; first | done | rfl))⟩)
  · refine lv_iconst (v := 0) hx hb dX8_restore_8 (by decide) ?_
    refine lv_goto (tgt := 13) hx hb dX8_restore_9 (by decide) ?_
    refine gM_thrownP C hW hS (hwc hwX8) (mc qw_1476) dX8_restore_13 (fun H_9 locs_10 hW_11 hS_12 => ?_)
    obtain ⟨w_13, ew_13⟩ : ∃ Z9, Z9 = upd (X.1 15) (0) 0 := ⟨_, rfl⟩
    have kn_14 : w_13 (0) = 0 := by rw [ew_13]; exact pk_us
    have hW_15 : Wd G (setRow (setRow X 15 w_13) 16 (X.1 16)) H_9 := Wd.cast (by rw [ew_13]; exact (st_in (by decide) st_out)) hW_11
    refine lv_aload_n hx hb dX8_restore_16 rfl (lv_at hl 0 rfl) ?_
    refine gM_thrown C hW_15 (hwc hwX8) (mc qw_1476) dX8_restore_17 ?_
    refine g_top (y := w_13 (0)) (congrFun (rd_in (by decide) rd_out) _) ?_
    refine g_top (y := 0) kn_14 ?_
    refine lv_if_eq (tgt := 25) hx hb dX8_restore_20 (by decide) (fun _ => ?_) (fun h9 => absurd h9 (by decide))
    refine lv_aload_n hx hb dX8_restore_25 rfl (lv_at hl 0 rfl) ?_
    refine gM_v C hW_15 (hwc hwX8) (mc qw_1481) dX8_restore_26 ?_
    refine lv_aload_n hx hb dX8_restore_29 rfl (lv_at hl 0 rfl) ?_
    refine gM_saved C hW_15 (hwc hwX8) (mc qw_1483) dX8_restore_30 ?_
    refine g_callv (va_runS (As := [.ref (ad G 724), .ref (ad G 726)]) (rest := []) C.1 (cX8_lays_v_saved_ok l G (setRow (setRow X 15 w_13) 16 (X.1 16))) (va_cwS 2 C.1.2.2.2.2 (gS qw_1555 qw_1556 qw_81 qw_1557) rfl rfl rfl (by decide +kernel) ⟨Nat.le_of_ble_eq_true rfl, Nat.le_of_ble_eq_true rfl⟩) (g_pre C hW_15 hS_12 [.ref (ad G 724), .ref (ad G 726)]) rfl rfl hl.1 rfl (lv_room (Nat.le_of_ble_eq_true rfl)) dX8_restore_33 ⟨Nat.zero_le _, Nat.zero_le _⟩) hS_12 (fun Y_17 H_18 locs_19 hW_20 hS_21 h_16 => ?_)
    rw [show (setRow (setRow X 15 w_13) 16 (X.1 16)).1 16 = X.1 16 from rd_out] at h_16
    rw [show (setRow (setRow X 15 w_13) 16 (X.1 16)).1 18 = X.1 18 from (rd_in (by decide) (rd_in (by decide) rfl))] at h_16
    obtain ⟨w_22, ew_22⟩ : ∃ Z9, Z9 = cpT 128 (X.1 16) (X.1 18) := ⟨_, rfl⟩
    have qqw_22 : Y_17 = setRow (setRow (setRow X 15 w_13) 16 (X.1 16)) 16 w_22 := by rw [h_16, ew_22]
    have hW_23 : Wd G (setRow (setRow X 15 w_13) 16 w_22) H_18 := Wd.cast ((qqw_22).trans (congrArg (fun Z9 => Z9) sr_out)) hW_20
    refine lv_aload_n hx hb dX8_restore_36 rfl (lv_at hl 0 rfl) ?_
    refine lv_iconst (v := 0) hx hb dX8_restore_37 (by decide) ?_
    refine gM_changesP C hW_23 hS_21 (hwc hwX8) (mc qw_1477) dX8_restore_38 (fun H_24 locs_25 hW_26 hS_27 => ?_)
    obtain ⟨w_28, ew_28⟩ : ∃ Z9, Z9 = upd w_13 (1) 0 := ⟨_, rfl⟩
    have kn_29 : w_28 (0) = 0 := by rw [ew_28]; exact (pk_un (by omega)).trans kn_14
    have kn_30 : w_28 (1) = 0 := by rw [ew_28]; exact pk_us
    have hW_31 : Wd G (setRow (setRow X 15 w_28) 16 w_22) H_24 := Wd.cast (by rw [ew_28]; exact (st_in (by decide) st_out)) hW_26
    refine lv_aload_n hx hb dX8_restore_41 rfl (lv_at hl 0 rfl) ?_
    refine gM_v C hW_31 (hwc hwX8) (mc qw_1481) dX8_restore_42 ?_
    refine lv_bipush (v := 43) hx hb dX8_restore_45 (by decide) ?_
    refine gm_vld C hW_31 43 (by decide) (vlit (by decide)) dX8_restore_47 ?_
    refine g_top (y := w_22 (43)) (congrFun rd_out _) ?_
    exact g_iret C hr hlk hW_31 hS_27 dX8_restore_48 (by subst ew_28; subst ew_22; subst ew_13; exact ⟨(by first | rfl | (simp only [oM_restore, b_1, if_true, if_false]; first | done | rfl)), (by first | rfl | (simp only [oM_restore, b_1, if_true, if_false]; first | done | rfl))⟩)

def oM_charge (w15 : Nat → Int32) (w16 : Nat → Int32) (w17 : Nat → Int32) (w19 : Nat → Int32) (w20 : Nat → Int32) (f : Int32) (mt : Int32) (ms : Int32) : Int32 × ((Nat → Int32) × ((Nat → Int32) × ((Nat → Int32) × ((Nat → Int32) × (Nat → Int32))))) := ((oM_ends ((oM_charges ((oM_begins (w15) (w16) (w17)).1) (w16) (w20) f (oM_kind mt) ms).2.1) ((oM_charges ((oM_begins (w15) (w16) (w17)).1) (w16) (w20) f (oM_kind mt) ms).2.2.1) ((oM_begins (w15) (w16) (w17)).2) (w19) ((oM_charges ((oM_begins (w15) (w16) (w17)).1) (w16) (w20) f (oM_kind mt) ms).1)).1, ((oM_ends ((oM_charges ((oM_begins (w15) (w16) (w17)).1) (w16) (w20) f (oM_kind mt) ms).2.1) ((oM_charges ((oM_begins (w15) (w16) (w17)).1) (w16) (w20) f (oM_kind mt) ms).2.2.1) ((oM_begins (w15) (w16) (w17)).2) (w19) ((oM_charges ((oM_begins (w15) (w16) (w17)).1) (w16) (w20) f (oM_kind mt) ms).1)).2.1), ((oM_ends ((oM_charges ((oM_begins (w15) (w16) (w17)).1) (w16) (w20) f (oM_kind mt) ms).2.1) ((oM_charges ((oM_begins (w15) (w16) (w17)).1) (w16) (w20) f (oM_kind mt) ms).2.2.1) ((oM_begins (w15) (w16) (w17)).2) (w19) ((oM_charges ((oM_begins (w15) (w16) (w17)).1) (w16) (w20) f (oM_kind mt) ms).1)).2.2.1), ((oM_begins (w15) (w16) (w17)).2), ((oM_ends ((oM_charges ((oM_begins (w15) (w16) (w17)).1) (w16) (w20) f (oM_kind mt) ms).2.1) ((oM_charges ((oM_begins (w15) (w16) (w17)).1) (w16) (w20) f (oM_kind mt) ms).2.2.1) ((oM_begins (w15) (w16) (w17)).2) (w19) ((oM_charges ((oM_begins (w15) (w16) (w17)).1) (w16) (w20) f (oM_kind mt) ms).1)).2.2.2), ((oM_charges ((oM_begins (w15) (w16) (w17)).1) (w16) (w20) f (oM_kind mt) ms).2.2.2))
set_option maxHeartbeats 4000000 in
set_option maxRecDepth 100000 in
theorem cX8_charge_ok (l : Launch) (G : GT) (X : St) (f : Int32) (mt : Int32) (ms : Int32) (hm : MInv (X.1 16)) (cg : Nat) (hc : cg ≤ 8) (ec : X.1 15 1 = nI cg) : MetI l G yX8_charge (wsG yX8_charge cX8_charge 4 (some .int)) (rmz 3 71) [.ref (ad G 723), .int f, .int mt, .int ms] X (fun res Y => res = (oM_charge (X.1 15) (X.1 16) (X.1 17) (X.1 19) (X.1 20) f mt ms).1 ∧ Y = setRow (setRow (setRow (setRow (setRow (X) 15 ((oM_charge (X.1 15) (X.1 16) (X.1 17) (X.1 19) (X.1 20) f mt ms).2.1)) 16 ((oM_charge (X.1 15) (X.1 16) (X.1 17) (X.1 19) (X.1 20) f mt ms).2.2.1)) 17 ((oM_charge (X.1 15) (X.1 16) (X.1 17) (X.1 19) (X.1 20) f mt ms).2.2.2.1)) 19 ((oM_charge (X.1 15) (X.1 16) (X.1 17) (X.1 19) (X.1 20) f mt ms).2.2.2.2.1)) 20 ((oM_charge (X.1 15) (X.1 16) (X.1 17) (X.1 19) (X.1 20) f mt ms).2.2.2.2.2)) := by
  refine g_met (cc := cX8_charge) (maxL := 4) (ret := (some .int)) (by decide) rfl (Nat.le_of_ble_eq_true rfl) ?_
  intro p e s m below meth c ls C hr hlk hnm hW hl
  have hx := C.1.1
  have hb := C.1.2.1
  have hS : va_S (Ab G) s.heap s.heap [] := va_S.rf
  have hl : lv_has ls 4 [(0, .ref (ad G 723)), (1, .int f), (2, .int mt), (3, .int ms)] := hl
  have hW : Wd G (setRow (setRow (setRow (setRow (setRow (X) 15 (X.1 15)) 16 (X.1 16)) 17 (X.1 17)) 19 (X.1 19)) 20 (X.1 20)) s.heap := Wd.cast ((((((sr_same (X := setRow (setRow (setRow (setRow (X) 15 (X.1 15)) 16 (X.1 16)) 17 (X.1 17)) 19 (X.1 19)) (r := 20) rfl).trans (sr_same (X := setRow (setRow (setRow (X) 15 (X.1 15)) 16 (X.1 16)) 17 (X.1 17)) (r := 19) rfl)).trans (sr_same (X := setRow (setRow (X) 15 (X.1 15)) 16 (X.1 16)) (r := 17) rfl)).trans (sr_same (X := setRow (X) 15 (X.1 15)) (r := 16) rfl)).trans (sr_same (X := X) (r := 15) rfl))).symm hW
  refine lv_aload_n hx hb dX8_charge_0 rfl (lv_at hl 0 rfl) ?_
  refine g_callv (va_runV (As := []) (rest := []) C.1 (cX8_begins_ok l G (setRow (setRow (setRow (setRow (setRow X 15 (X.1 15)) 16 (X.1 16)) 17 (X.1 17)) 19 (X.1 19)) 20 (X.1 20))) (cwV 0 C.1.2.2.2.2 (gV qw_1551 qw_1553 qw_29 qw_81 qw_1554) rfl rfl rfl (by decide +kernel) ⟨Nat.le_of_ble_eq_true rfl, Nat.le_of_ble_eq_true rfl⟩) (g_rModel C hW hS []) rfl rfl hl.1 rfl (lv_room (Nat.le_of_ble_eq_true rfl)) dX8_charge_1 ⟨Nat.zero_le _, Nat.zero_le _⟩) hS (fun Y_2 H_3 locs_4 hW_5 hS_6 h_1 => ?_)
  replace h_1 : Y_2 = setRow (setRow (setRow (setRow (setRow (setRow (setRow X 15 (X.1 15)) 16 (X.1 16)) 17 (X.1 17)) 19 (X.1 19)) 20 (X.1 20)) 15 ((oM_begins (X.1 15) (X.1 16) (X.1 17)).1)) 17 ((oM_begins (X.1 15) (X.1 16) (X.1 17)).2) := h_1
  obtain ⟨w_7, ew_7⟩ : ∃ Z9, Z9 = (oM_begins (X.1 15) (X.1 16) (X.1 17)).1 := ⟨_, rfl⟩
  obtain ⟨w_8, ew_8⟩ : ∃ Z9, Z9 = (oM_begins (X.1 15) (X.1 16) (X.1 17)).2 := ⟨_, rfl⟩
  have qqw_7 : Y_2 = setRow (setRow (setRow (setRow (setRow (setRow (setRow X 15 (X.1 15)) 16 (X.1 16)) 17 (X.1 17)) 19 (X.1 19)) 20 (X.1 20)) 15 w_7) 17 w_8 := by rw [h_1, ew_7, ew_8]
  have hW_9 : Wd G (setRow (setRow (setRow (setRow (setRow X 15 w_7) 16 (X.1 16)) 17 w_8) 19 (X.1 19)) 20 (X.1 20)) H_3 := Wd.cast (((qqw_7).trans (congrArg (fun Z9 => setRow (Z9) 17 w_8) (sr_in (by decide) (sr_in (by decide) (sr_in (by decide) (sr_in (by decide) sr_out)))))).trans (congrArg (fun Z9 => Z9) (sr_in (by decide) (sr_in (by decide) sr_out)))) hW_5
  refine lv_aload_n hx hb dX8_charge_4 rfl (lv_at hl 0 rfl) ?_
  refine lv_aload_n hx hb dX8_charge_5 rfl (lv_at hl 0 rfl) ?_
  refine lv_iload_n hx hb dX8_charge_6 rfl (lv_at hl 1 rfl) ?_
  refine lv_iload_n hx hb dX8_charge_7 rfl (lv_at hl 2 rfl) ?_
  refine g_calli (va_runS (As := [.int mt]) (rest := [.int f, .ref (ad G 723), .ref (ad G 723)]) C.1 (cX8_kind_ok l G (setRow (setRow (setRow (setRow (setRow X 15 w_7) 16 (X.1 16)) 17 w_8) 19 (X.1 19)) 20 (X.1 20)) mt) (va_cwS 1 C.1.2.2.2.2 (gS qw_1558 qw_1559 qw_81 qw_1560) rfl rfl rfl (by decide +kernel) ⟨Nat.le_of_ble_eq_true rfl, Nat.le_of_ble_eq_true rfl⟩) (g_pre C hW_9 hS_6 [.int mt]) rfl rfl hl.1 rfl (lv_room (Nat.le_of_ble_eq_true rfl)) dX8_charge_8 ⟨Nat.zero_le _, Nat.zero_le _⟩) hS_6 (fun r_11 Y_12 H_13 locs_14 hW_15 hS_16 h_10 => ?_)
  obtain ⟨h_10, hy_17⟩ := h_10
  replace hy_17 := hy_17.symm
  subst hy_17
  replace h_10 : r_11 = oM_kind mt := h_10
  subst h_10
  refine lv_iload_n hx hb dX8_charge_11 rfl (lv_at hl 3 rfl) ?_
  refine g_calli (va_runV (As := [.int f, .int (oM_kind mt), .int ms]) (rest := [.ref (ad G 723)]) C.1 (cX8_charges_ok l G (setRow (setRow (setRow (setRow (setRow X 15 w_7) 16 (X.1 16)) 17 w_8) 19 (X.1 19)) 20 (X.1 20)) f (oM_kind mt) ms hm (fun h9 => kind_in h9)) (cwV 3 C.1.2.2.2.2 (gV qw_1561 qw_1563 qw_30 qw_81 qw_1564) rfl rfl rfl (by decide +kernel) ⟨Nat.le_of_ble_eq_true rfl, Nat.le_of_ble_eq_true rfl⟩) (g_rModel C hW_15 hS_16 [.int f, .int (oM_kind mt), .int ms]) rfl rfl hl.1 rfl (lv_room (Nat.le_of_ble_eq_true rfl)) dX8_charge_12 ⟨Nat.zero_le _, Nat.zero_le _⟩) hS_16 (fun r_19 Y_20 H_21 locs_22 hW_23 hS_24 h_18 => ?_)
  obtain ⟨h_25, h_18⟩ := h_18
  replace h_25 : r_19 = (oM_charges w_7 (X.1 16) (X.1 20) f (oM_kind mt) ms).1 := h_25
  subst h_25
  replace h_18 : Y_20 = setRow (setRow (setRow (setRow (setRow (setRow (setRow (setRow X 15 w_7) 16 (X.1 16)) 17 w_8) 19 (X.1 19)) 20 (X.1 20)) 15 ((oM_charges w_7 (X.1 16) (X.1 20) f (oM_kind mt) ms).2.1)) 16 ((oM_charges w_7 (X.1 16) (X.1 20) f (oM_kind mt) ms).2.2.1)) 20 ((oM_charges w_7 (X.1 16) (X.1 20) f (oM_kind mt) ms).2.2.2) := h_18
  obtain ⟨w_26, ew_26⟩ : ∃ Z9, Z9 = (oM_charges w_7 (X.1 16) (X.1 20) f (oM_kind mt) ms).2.1 := ⟨_, rfl⟩
  obtain ⟨w_27, ew_27⟩ : ∃ Z9, Z9 = (oM_charges w_7 (X.1 16) (X.1 20) f (oM_kind mt) ms).2.2.1 := ⟨_, rfl⟩
  obtain ⟨w_28, ew_28⟩ : ∃ Z9, Z9 = (oM_charges w_7 (X.1 16) (X.1 20) f (oM_kind mt) ms).2.2.2 := ⟨_, rfl⟩
  have qqw_26 : Y_20 = setRow (setRow (setRow (setRow (setRow (setRow (setRow (setRow X 15 w_7) 16 (X.1 16)) 17 w_8) 19 (X.1 19)) 20 (X.1 20)) 15 w_26) 16 w_27) 20 w_28 := by rw [h_18, ew_26, ew_27, ew_28]
  have hW_29 : Wd G (setRow (setRow (setRow (setRow (setRow X 15 w_26) 16 w_27) 17 w_8) 19 (X.1 19)) 20 w_28) H_21 := Wd.cast ((((qqw_26).trans (congrArg (fun Z9 => setRow (setRow (Z9) 16 w_27) 20 w_28) (sr_in (by decide) (sr_in (by decide) (sr_in (by decide) (sr_in (by decide) sr_out)))))).trans (congrArg (fun Z9 => setRow (Z9) 20 w_28) (sr_in (by decide) (sr_in (by decide) (sr_in (by decide) sr_out))))).trans (congrArg (fun Z9 => Z9) sr_out)) hW_23
  refine g_calli (va_runV (As := [.int ((oM_charges w_7 (X.1 16) (X.1 20) f (oM_kind mt) ms).1)]) (rest := []) C.1 (cX8_ends_ok l G (setRow (setRow (setRow (setRow (setRow X 15 w_26) 16 w_27) 17 w_8) 19 (X.1 19)) 20 w_28) ((oM_charges w_7 (X.1 16) (X.1 20) f (oM_kind mt) ms).1) cg hc (by show w_26 1 = nI cg; rw [ew_26, kc_charges (by decide), ew_7]; exact ec)) (cwV 1 C.1.2.2.2.2 (gV qw_1591 qw_1593 qw_36 qw_81 qw_1594) rfl rfl rfl (by decide +kernel) ⟨Nat.le_of_ble_eq_true rfl, Nat.le_of_ble_eq_true rfl⟩) (g_rModel C hW_29 hS_24 [.int ((oM_charges w_7 (X.1 16) (X.1 20) f (oM_kind mt) ms).1)]) rfl rfl hl.1 rfl (lv_room (Nat.le_of_ble_eq_true rfl)) dX8_charge_15 ⟨Nat.zero_le _, Nat.zero_le _⟩) hS_24 (fun r_31 Y_32 H_33 locs_34 hW_35 hS_36 h_30 => ?_)
  obtain ⟨h_37, h_30⟩ := h_30
  replace h_37 : r_31 = (oM_ends w_26 w_27 w_8 (X.1 19) ((oM_charges w_7 (X.1 16) (X.1 20) f (oM_kind mt) ms).1)).1 := h_37
  subst h_37
  replace h_30 : Y_32 = setRow (setRow (setRow (setRow (setRow (setRow (setRow (setRow X 15 w_26) 16 w_27) 17 w_8) 19 (X.1 19)) 20 w_28) 15 ((oM_ends w_26 w_27 w_8 (X.1 19) ((oM_charges w_7 (X.1 16) (X.1 20) f (oM_kind mt) ms).1)).2.1)) 16 ((oM_ends w_26 w_27 w_8 (X.1 19) ((oM_charges w_7 (X.1 16) (X.1 20) f (oM_kind mt) ms).1)).2.2.1)) 19 ((oM_ends w_26 w_27 w_8 (X.1 19) ((oM_charges w_7 (X.1 16) (X.1 20) f (oM_kind mt) ms).1)).2.2.2) := h_30
  obtain ⟨w_38, ew_38⟩ : ∃ Z9, Z9 = (oM_ends w_26 w_27 w_8 (X.1 19) ((oM_charges w_7 (X.1 16) (X.1 20) f (oM_kind mt) ms).1)).2.1 := ⟨_, rfl⟩
  obtain ⟨w_39, ew_39⟩ : ∃ Z9, Z9 = (oM_ends w_26 w_27 w_8 (X.1 19) ((oM_charges w_7 (X.1 16) (X.1 20) f (oM_kind mt) ms).1)).2.2.1 := ⟨_, rfl⟩
  obtain ⟨w_40, ew_40⟩ : ∃ Z9, Z9 = (oM_ends w_26 w_27 w_8 (X.1 19) ((oM_charges w_7 (X.1 16) (X.1 20) f (oM_kind mt) ms).1)).2.2.2 := ⟨_, rfl⟩
  have qqw_38 : Y_32 = setRow (setRow (setRow (setRow (setRow (setRow (setRow (setRow X 15 w_26) 16 w_27) 17 w_8) 19 (X.1 19)) 20 w_28) 15 w_38) 16 w_39) 19 w_40 := by rw [h_30, ew_38, ew_39, ew_40]
  have hW_41 : Wd G (setRow (setRow (setRow (setRow (setRow X 15 w_38) 16 w_39) 17 w_8) 19 w_40) 20 w_28) H_33 := Wd.cast ((((qqw_38).trans (congrArg (fun Z9 => setRow (setRow (Z9) 16 w_39) 19 w_40) (sr_in (by decide) (sr_in (by decide) (sr_in (by decide) (sr_in (by decide) sr_out)))))).trans (congrArg (fun Z9 => setRow (Z9) 19 w_40) (sr_in (by decide) (sr_in (by decide) (sr_in (by decide) sr_out))))).trans (congrArg (fun Z9 => Z9) (sr_in (by decide) sr_out))) hW_35
  exact g_iret C hr hlk hW_41 hS_36 dX8_charge_18 (by subst ew_40; subst ew_39; subst ew_38; subst ew_28; subst ew_27; subst ew_26; subst ew_8; subst ew_7; exact ⟨(by first | rfl | (simp only [oM_charge, if_true, if_false]; first | done | rfl)), (by first | rfl | (simp only [oM_charge, if_true, if_false]; first | done | rfl))⟩)

def oM_setFire (w15 : Nat → Int32) (w16 : Nat → Int32) (w17 : Nat → Int32) (w19 : Nat → Int32) (f : Int32) (lv : Int32) : Int32 × ((Nat → Int32) × ((Nat → Int32) × ((Nat → Int32) × (Nat → Int32)))) := ((oM_ends ((oM_fires ((oM_begins (w15) (w16) (w17)).1) (w16) f lv).2.1) ((oM_fires ((oM_begins (w15) (w16) (w17)).1) (w16) f lv).2.2) ((oM_begins (w15) (w16) (w17)).2) (w19) ((oM_fires ((oM_begins (w15) (w16) (w17)).1) (w16) f lv).1)).1, ((oM_ends ((oM_fires ((oM_begins (w15) (w16) (w17)).1) (w16) f lv).2.1) ((oM_fires ((oM_begins (w15) (w16) (w17)).1) (w16) f lv).2.2) ((oM_begins (w15) (w16) (w17)).2) (w19) ((oM_fires ((oM_begins (w15) (w16) (w17)).1) (w16) f lv).1)).2.1), ((oM_ends ((oM_fires ((oM_begins (w15) (w16) (w17)).1) (w16) f lv).2.1) ((oM_fires ((oM_begins (w15) (w16) (w17)).1) (w16) f lv).2.2) ((oM_begins (w15) (w16) (w17)).2) (w19) ((oM_fires ((oM_begins (w15) (w16) (w17)).1) (w16) f lv).1)).2.2.1), ((oM_begins (w15) (w16) (w17)).2), ((oM_ends ((oM_fires ((oM_begins (w15) (w16) (w17)).1) (w16) f lv).2.1) ((oM_fires ((oM_begins (w15) (w16) (w17)).1) (w16) f lv).2.2) ((oM_begins (w15) (w16) (w17)).2) (w19) ((oM_fires ((oM_begins (w15) (w16) (w17)).1) (w16) f lv).1)).2.2.2))
set_option maxHeartbeats 4000000 in
set_option maxRecDepth 100000 in
theorem cX8_setFire_ok (l : Launch) (G : GT) (X : St) (f : Int32) (lv : Int32) (hm : MInv (X.1 16)) (cg : Nat) (hc : cg ≤ 8) (ec : X.1 15 1 = nI cg) : MetI l G yX8_setFire (wsG yX8_setFire cX8_setFire 3 (some .int)) (rmz 3 65) [.ref (ad G 723), .int f, .int lv] X (fun res Y => res = (oM_setFire (X.1 15) (X.1 16) (X.1 17) (X.1 19) f lv).1 ∧ Y = setRow (setRow (setRow (setRow (X) 15 ((oM_setFire (X.1 15) (X.1 16) (X.1 17) (X.1 19) f lv).2.1)) 16 ((oM_setFire (X.1 15) (X.1 16) (X.1 17) (X.1 19) f lv).2.2.1)) 17 ((oM_setFire (X.1 15) (X.1 16) (X.1 17) (X.1 19) f lv).2.2.2.1)) 19 ((oM_setFire (X.1 15) (X.1 16) (X.1 17) (X.1 19) f lv).2.2.2.2)) := by
  refine g_met (cc := cX8_setFire) (maxL := 3) (ret := (some .int)) (by decide) rfl (Nat.le_of_ble_eq_true rfl) ?_
  intro p e s m below meth c ls C hr hlk hnm hW hl
  have hx := C.1.1
  have hb := C.1.2.1
  have hS : va_S (Ab G) s.heap s.heap [] := va_S.rf
  have hl : lv_has ls 3 [(0, .ref (ad G 723)), (1, .int f), (2, .int lv)] := hl
  have hW : Wd G (setRow (setRow (setRow (setRow (X) 15 (X.1 15)) 16 (X.1 16)) 17 (X.1 17)) 19 (X.1 19)) s.heap := Wd.cast (((((sr_same (X := setRow (setRow (setRow (X) 15 (X.1 15)) 16 (X.1 16)) 17 (X.1 17)) (r := 19) rfl).trans (sr_same (X := setRow (setRow (X) 15 (X.1 15)) 16 (X.1 16)) (r := 17) rfl)).trans (sr_same (X := setRow (X) 15 (X.1 15)) (r := 16) rfl)).trans (sr_same (X := X) (r := 15) rfl))).symm hW
  refine lv_aload_n hx hb dX8_setFire_0 rfl (lv_at hl 0 rfl) ?_
  refine g_callv (va_runV (As := []) (rest := []) C.1 (cX8_begins_ok l G (setRow (setRow (setRow (setRow X 15 (X.1 15)) 16 (X.1 16)) 17 (X.1 17)) 19 (X.1 19))) (cwV 0 C.1.2.2.2.2 (gV qw_1551 qw_1553 qw_29 qw_81 qw_1554) rfl rfl rfl (by decide +kernel) ⟨Nat.le_of_ble_eq_true rfl, Nat.le_of_ble_eq_true rfl⟩) (g_rModel C hW hS []) rfl rfl hl.1 rfl (lv_room (Nat.le_of_ble_eq_true rfl)) dX8_setFire_1 ⟨Nat.zero_le _, Nat.zero_le _⟩) hS (fun Y_2 H_3 locs_4 hW_5 hS_6 h_1 => ?_)
  replace h_1 : Y_2 = setRow (setRow (setRow (setRow (setRow (setRow X 15 (X.1 15)) 16 (X.1 16)) 17 (X.1 17)) 19 (X.1 19)) 15 ((oM_begins (X.1 15) (X.1 16) (X.1 17)).1)) 17 ((oM_begins (X.1 15) (X.1 16) (X.1 17)).2) := h_1
  obtain ⟨w_7, ew_7⟩ : ∃ Z9, Z9 = (oM_begins (X.1 15) (X.1 16) (X.1 17)).1 := ⟨_, rfl⟩
  obtain ⟨w_8, ew_8⟩ : ∃ Z9, Z9 = (oM_begins (X.1 15) (X.1 16) (X.1 17)).2 := ⟨_, rfl⟩
  have qqw_7 : Y_2 = setRow (setRow (setRow (setRow (setRow (setRow X 15 (X.1 15)) 16 (X.1 16)) 17 (X.1 17)) 19 (X.1 19)) 15 w_7) 17 w_8 := by rw [h_1, ew_7, ew_8]
  have hW_9 : Wd G (setRow (setRow (setRow (setRow X 15 w_7) 16 (X.1 16)) 17 w_8) 19 (X.1 19)) H_3 := Wd.cast (((qqw_7).trans (congrArg (fun Z9 => setRow (Z9) 17 w_8) (sr_in (by decide) (sr_in (by decide) (sr_in (by decide) sr_out))))).trans (congrArg (fun Z9 => Z9) (sr_in (by decide) sr_out))) hW_5
  refine lv_aload_n hx hb dX8_setFire_4 rfl (lv_at hl 0 rfl) ?_
  refine lv_aload_n hx hb dX8_setFire_5 rfl (lv_at hl 0 rfl) ?_
  refine lv_iload_n hx hb dX8_setFire_6 rfl (lv_at hl 1 rfl) ?_
  refine lv_iload_n hx hb dX8_setFire_7 rfl (lv_at hl 2 rfl) ?_
  refine g_calli (va_runV (As := [.int f, .int lv]) (rest := [.ref (ad G 723)]) C.1 (cX8_fires_ok l G (setRow (setRow (setRow (setRow X 15 w_7) 16 (X.1 16)) 17 w_8) 19 (X.1 19)) f lv) (cwV 2 C.1.2.2.2.2 (gV qw_1599 qw_1601 qw_37 qw_81 qw_1602) rfl rfl rfl (by decide +kernel) ⟨Nat.le_of_ble_eq_true rfl, Nat.le_of_ble_eq_true rfl⟩) (g_rModel C hW_9 hS_6 [.int f, .int lv]) rfl rfl hl.1 rfl (lv_room (Nat.le_of_ble_eq_true rfl)) dX8_setFire_8 ⟨Nat.zero_le _, Nat.zero_le _⟩) hS_6 (fun r_11 Y_12 H_13 locs_14 hW_15 hS_16 h_10 => ?_)
  obtain ⟨h_17, h_10⟩ := h_10
  replace h_17 : r_11 = (oM_fires w_7 (X.1 16) f lv).1 := h_17
  subst h_17
  replace h_10 : Y_12 = setRow (setRow (setRow (setRow (setRow (setRow X 15 w_7) 16 (X.1 16)) 17 w_8) 19 (X.1 19)) 15 ((oM_fires w_7 (X.1 16) f lv).2.1)) 16 ((oM_fires w_7 (X.1 16) f lv).2.2) := h_10
  obtain ⟨w_18, ew_18⟩ : ∃ Z9, Z9 = (oM_fires w_7 (X.1 16) f lv).2.1 := ⟨_, rfl⟩
  obtain ⟨w_19, ew_19⟩ : ∃ Z9, Z9 = (oM_fires w_7 (X.1 16) f lv).2.2 := ⟨_, rfl⟩
  have qqw_18 : Y_12 = setRow (setRow (setRow (setRow (setRow (setRow X 15 w_7) 16 (X.1 16)) 17 w_8) 19 (X.1 19)) 15 w_18) 16 w_19 := by rw [h_10, ew_18, ew_19]
  have hW_20 : Wd G (setRow (setRow (setRow (setRow X 15 w_18) 16 w_19) 17 w_8) 19 (X.1 19)) H_13 := Wd.cast (((qqw_18).trans (congrArg (fun Z9 => setRow (Z9) 16 w_19) (sr_in (by decide) (sr_in (by decide) (sr_in (by decide) sr_out))))).trans (congrArg (fun Z9 => Z9) (sr_in (by decide) (sr_in (by decide) sr_out)))) hW_15
  refine g_calli (va_runV (As := [.int ((oM_fires w_7 (X.1 16) f lv).1)]) (rest := []) C.1 (cX8_ends_ok l G (setRow (setRow (setRow (setRow X 15 w_18) 16 w_19) 17 w_8) 19 (X.1 19)) ((oM_fires w_7 (X.1 16) f lv).1) cg hc (by show w_18 1 = nI cg; rw [ew_18, kc_fires (by decide), ew_7]; exact ec)) (cwV 1 C.1.2.2.2.2 (gV qw_1591 qw_1593 qw_36 qw_81 qw_1594) rfl rfl rfl (by decide +kernel) ⟨Nat.le_of_ble_eq_true rfl, Nat.le_of_ble_eq_true rfl⟩) (g_rModel C hW_20 hS_16 [.int ((oM_fires w_7 (X.1 16) f lv).1)]) rfl rfl hl.1 rfl (lv_room (Nat.le_of_ble_eq_true rfl)) dX8_setFire_11 ⟨Nat.zero_le _, Nat.zero_le _⟩) hS_16 (fun r_22 Y_23 H_24 locs_25 hW_26 hS_27 h_21 => ?_)
  obtain ⟨h_28, h_21⟩ := h_21
  replace h_28 : r_22 = (oM_ends w_18 w_19 w_8 (X.1 19) ((oM_fires w_7 (X.1 16) f lv).1)).1 := h_28
  subst h_28
  replace h_21 : Y_23 = setRow (setRow (setRow (setRow (setRow (setRow (setRow X 15 w_18) 16 w_19) 17 w_8) 19 (X.1 19)) 15 ((oM_ends w_18 w_19 w_8 (X.1 19) ((oM_fires w_7 (X.1 16) f lv).1)).2.1)) 16 ((oM_ends w_18 w_19 w_8 (X.1 19) ((oM_fires w_7 (X.1 16) f lv).1)).2.2.1)) 19 ((oM_ends w_18 w_19 w_8 (X.1 19) ((oM_fires w_7 (X.1 16) f lv).1)).2.2.2) := h_21
  obtain ⟨w_29, ew_29⟩ : ∃ Z9, Z9 = (oM_ends w_18 w_19 w_8 (X.1 19) ((oM_fires w_7 (X.1 16) f lv).1)).2.1 := ⟨_, rfl⟩
  obtain ⟨w_30, ew_30⟩ : ∃ Z9, Z9 = (oM_ends w_18 w_19 w_8 (X.1 19) ((oM_fires w_7 (X.1 16) f lv).1)).2.2.1 := ⟨_, rfl⟩
  obtain ⟨w_31, ew_31⟩ : ∃ Z9, Z9 = (oM_ends w_18 w_19 w_8 (X.1 19) ((oM_fires w_7 (X.1 16) f lv).1)).2.2.2 := ⟨_, rfl⟩
  have qqw_29 : Y_23 = setRow (setRow (setRow (setRow (setRow (setRow (setRow X 15 w_18) 16 w_19) 17 w_8) 19 (X.1 19)) 15 w_29) 16 w_30) 19 w_31 := by rw [h_21, ew_29, ew_30, ew_31]
  have hW_32 : Wd G (setRow (setRow (setRow (setRow X 15 w_29) 16 w_30) 17 w_8) 19 w_31) H_24 := Wd.cast ((((qqw_29).trans (congrArg (fun Z9 => setRow (setRow (Z9) 16 w_30) 19 w_31) (sr_in (by decide) (sr_in (by decide) (sr_in (by decide) sr_out))))).trans (congrArg (fun Z9 => setRow (Z9) 19 w_31) (sr_in (by decide) (sr_in (by decide) sr_out)))).trans (congrArg (fun Z9 => Z9) sr_out)) hW_26
  exact g_iret C hr hlk hW_32 hS_27 dX8_setFire_14 (by subst ew_31; subst ew_30; subst ew_29; subst ew_19; subst ew_18; subst ew_8; subst ew_7; exact ⟨(by first | rfl | (simp only [oM_setFire, if_true, if_false]; first | done | rfl)), (by first | rfl | (simp only [oM_setFire, if_true, if_false]; first | done | rfl))⟩)

def oM_skim (w15 : Nat → Int32) (w16 : Nat → Int32) (w17 : Nat → Int32) (w19 : Nat → Int32) (w21 : Nat → Int32) (f : Int32) : Int32 × ((Nat → Int32) × ((Nat → Int32) × ((Nat → Int32) × (Nat → Int32)))) := ((oM_ends ((oM_skims ((oM_begins (w15) (w16) (w17)).1) (w16) (w21) f).2.1) ((oM_skims ((oM_begins (w15) (w16) (w17)).1) (w16) (w21) f).2.2) ((oM_begins (w15) (w16) (w17)).2) (w19) ((oM_skims ((oM_begins (w15) (w16) (w17)).1) (w16) (w21) f).1)).1, ((oM_ends ((oM_skims ((oM_begins (w15) (w16) (w17)).1) (w16) (w21) f).2.1) ((oM_skims ((oM_begins (w15) (w16) (w17)).1) (w16) (w21) f).2.2) ((oM_begins (w15) (w16) (w17)).2) (w19) ((oM_skims ((oM_begins (w15) (w16) (w17)).1) (w16) (w21) f).1)).2.1), ((oM_ends ((oM_skims ((oM_begins (w15) (w16) (w17)).1) (w16) (w21) f).2.1) ((oM_skims ((oM_begins (w15) (w16) (w17)).1) (w16) (w21) f).2.2) ((oM_begins (w15) (w16) (w17)).2) (w19) ((oM_skims ((oM_begins (w15) (w16) (w17)).1) (w16) (w21) f).1)).2.2.1), ((oM_begins (w15) (w16) (w17)).2), ((oM_ends ((oM_skims ((oM_begins (w15) (w16) (w17)).1) (w16) (w21) f).2.1) ((oM_skims ((oM_begins (w15) (w16) (w17)).1) (w16) (w21) f).2.2) ((oM_begins (w15) (w16) (w17)).2) (w19) ((oM_skims ((oM_begins (w15) (w16) (w17)).1) (w16) (w21) f).1)).2.2.2))
set_option maxHeartbeats 4000000 in
set_option maxRecDepth 100000 in
theorem cX8_skim_ok (l : Launch) (G : GT) (X : St) (f : Int32) (hm : MInv (X.1 16)) (cg : Nat) (hc : cg ≤ 8) (ec : X.1 15 1 = nI cg) : MetI l G yX8_skim (wsG yX8_skim cX8_skim 2 (some .int)) (rmz 4 90) [.ref (ad G 723), .int f] X (fun res Y => res = (oM_skim (X.1 15) (X.1 16) (X.1 17) (X.1 19) (X.1 21) f).1 ∧ Y = setRow (setRow (setRow (setRow (X) 15 ((oM_skim (X.1 15) (X.1 16) (X.1 17) (X.1 19) (X.1 21) f).2.1)) 16 ((oM_skim (X.1 15) (X.1 16) (X.1 17) (X.1 19) (X.1 21) f).2.2.1)) 17 ((oM_skim (X.1 15) (X.1 16) (X.1 17) (X.1 19) (X.1 21) f).2.2.2.1)) 19 ((oM_skim (X.1 15) (X.1 16) (X.1 17) (X.1 19) (X.1 21) f).2.2.2.2)) := by
  refine g_met (cc := cX8_skim) (maxL := 2) (ret := (some .int)) (by decide) rfl (Nat.le_of_ble_eq_true rfl) ?_
  intro p e s m below meth c ls C hr hlk hnm hW hl
  have hx := C.1.1
  have hb := C.1.2.1
  have hS : va_S (Ab G) s.heap s.heap [] := va_S.rf
  have hl : lv_has ls 2 [(0, .ref (ad G 723)), (1, .int f)] := hl
  have hW : Wd G (setRow (setRow (setRow (setRow (X) 15 (X.1 15)) 16 (X.1 16)) 17 (X.1 17)) 19 (X.1 19)) s.heap := Wd.cast (((((sr_same (X := setRow (setRow (setRow (X) 15 (X.1 15)) 16 (X.1 16)) 17 (X.1 17)) (r := 19) rfl).trans (sr_same (X := setRow (setRow (X) 15 (X.1 15)) 16 (X.1 16)) (r := 17) rfl)).trans (sr_same (X := setRow (X) 15 (X.1 15)) (r := 16) rfl)).trans (sr_same (X := X) (r := 15) rfl))).symm hW
  refine lv_aload_n hx hb dX8_skim_0 rfl (lv_at hl 0 rfl) ?_
  refine g_callv (va_runV (As := []) (rest := []) C.1 (cX8_begins_ok l G (setRow (setRow (setRow (setRow X 15 (X.1 15)) 16 (X.1 16)) 17 (X.1 17)) 19 (X.1 19))) (cwV 0 C.1.2.2.2.2 (gV qw_1551 qw_1553 qw_29 qw_81 qw_1554) rfl rfl rfl (by decide +kernel) ⟨Nat.le_of_ble_eq_true rfl, Nat.le_of_ble_eq_true rfl⟩) (g_rModel C hW hS []) rfl rfl hl.1 rfl (lv_room (Nat.le_of_ble_eq_true rfl)) dX8_skim_1 ⟨Nat.zero_le _, Nat.zero_le _⟩) hS (fun Y_2 H_3 locs_4 hW_5 hS_6 h_1 => ?_)
  replace h_1 : Y_2 = setRow (setRow (setRow (setRow (setRow (setRow X 15 (X.1 15)) 16 (X.1 16)) 17 (X.1 17)) 19 (X.1 19)) 15 ((oM_begins (X.1 15) (X.1 16) (X.1 17)).1)) 17 ((oM_begins (X.1 15) (X.1 16) (X.1 17)).2) := h_1
  obtain ⟨w_7, ew_7⟩ : ∃ Z9, Z9 = (oM_begins (X.1 15) (X.1 16) (X.1 17)).1 := ⟨_, rfl⟩
  obtain ⟨w_8, ew_8⟩ : ∃ Z9, Z9 = (oM_begins (X.1 15) (X.1 16) (X.1 17)).2 := ⟨_, rfl⟩
  have qqw_7 : Y_2 = setRow (setRow (setRow (setRow (setRow (setRow X 15 (X.1 15)) 16 (X.1 16)) 17 (X.1 17)) 19 (X.1 19)) 15 w_7) 17 w_8 := by rw [h_1, ew_7, ew_8]
  have hW_9 : Wd G (setRow (setRow (setRow (setRow X 15 w_7) 16 (X.1 16)) 17 w_8) 19 (X.1 19)) H_3 := Wd.cast (((qqw_7).trans (congrArg (fun Z9 => setRow (Z9) 17 w_8) (sr_in (by decide) (sr_in (by decide) (sr_in (by decide) sr_out))))).trans (congrArg (fun Z9 => Z9) (sr_in (by decide) sr_out))) hW_5
  refine lv_aload_n hx hb dX8_skim_4 rfl (lv_at hl 0 rfl) ?_
  refine lv_aload_n hx hb dX8_skim_5 rfl (lv_at hl 0 rfl) ?_
  refine lv_iload_n hx hb dX8_skim_6 rfl (lv_at hl 1 rfl) ?_
  refine g_calli (va_runV (As := [.int f]) (rest := [.ref (ad G 723)]) C.1 (cX8_skims_ok l G (setRow (setRow (setRow (setRow X 15 w_7) 16 (X.1 16)) 17 w_8) 19 (X.1 19)) f) (cwV 1 C.1.2.2.2.2 (gV qw_1607 qw_1609 qw_38 qw_81 qw_1610) rfl rfl rfl (by decide +kernel) ⟨Nat.le_of_ble_eq_true rfl, Nat.le_of_ble_eq_true rfl⟩) (g_rModel C hW_9 hS_6 [.int f]) rfl rfl hl.1 rfl (lv_room (Nat.le_of_ble_eq_true rfl)) dX8_skim_7 ⟨Nat.zero_le _, Nat.zero_le _⟩) hS_6 (fun r_11 Y_12 H_13 locs_14 hW_15 hS_16 h_10 => ?_)
  obtain ⟨h_17, h_10⟩ := h_10
  replace h_17 : r_11 = (oM_skims w_7 (X.1 16) (X.1 21) f).1 := h_17
  subst h_17
  replace h_10 : Y_12 = setRow (setRow (setRow (setRow (setRow (setRow X 15 w_7) 16 (X.1 16)) 17 w_8) 19 (X.1 19)) 15 ((oM_skims w_7 (X.1 16) (X.1 21) f).2.1)) 16 ((oM_skims w_7 (X.1 16) (X.1 21) f).2.2) := h_10
  obtain ⟨w_18, ew_18⟩ : ∃ Z9, Z9 = (oM_skims w_7 (X.1 16) (X.1 21) f).2.1 := ⟨_, rfl⟩
  obtain ⟨w_19, ew_19⟩ : ∃ Z9, Z9 = (oM_skims w_7 (X.1 16) (X.1 21) f).2.2 := ⟨_, rfl⟩
  have qqw_18 : Y_12 = setRow (setRow (setRow (setRow (setRow (setRow X 15 w_7) 16 (X.1 16)) 17 w_8) 19 (X.1 19)) 15 w_18) 16 w_19 := by rw [h_10, ew_18, ew_19]
  have hW_20 : Wd G (setRow (setRow (setRow (setRow X 15 w_18) 16 w_19) 17 w_8) 19 (X.1 19)) H_13 := Wd.cast (((qqw_18).trans (congrArg (fun Z9 => setRow (Z9) 16 w_19) (sr_in (by decide) (sr_in (by decide) (sr_in (by decide) sr_out))))).trans (congrArg (fun Z9 => Z9) (sr_in (by decide) (sr_in (by decide) sr_out)))) hW_15
  refine g_calli (va_runV (As := [.int ((oM_skims w_7 (X.1 16) (X.1 21) f).1)]) (rest := []) C.1 (cX8_ends_ok l G (setRow (setRow (setRow (setRow X 15 w_18) 16 w_19) 17 w_8) 19 (X.1 19)) ((oM_skims w_7 (X.1 16) (X.1 21) f).1) cg hc (by show w_18 1 = nI cg; rw [ew_18, kc_skims (by decide), ew_7]; exact ec)) (cwV 1 C.1.2.2.2.2 (gV qw_1591 qw_1593 qw_36 qw_81 qw_1594) rfl rfl rfl (by decide +kernel) ⟨Nat.le_of_ble_eq_true rfl, Nat.le_of_ble_eq_true rfl⟩) (g_rModel C hW_20 hS_16 [.int ((oM_skims w_7 (X.1 16) (X.1 21) f).1)]) rfl rfl hl.1 rfl (lv_room (Nat.le_of_ble_eq_true rfl)) dX8_skim_10 ⟨Nat.zero_le _, Nat.zero_le _⟩) hS_16 (fun r_22 Y_23 H_24 locs_25 hW_26 hS_27 h_21 => ?_)
  obtain ⟨h_28, h_21⟩ := h_21
  replace h_28 : r_22 = (oM_ends w_18 w_19 w_8 (X.1 19) ((oM_skims w_7 (X.1 16) (X.1 21) f).1)).1 := h_28
  subst h_28
  replace h_21 : Y_23 = setRow (setRow (setRow (setRow (setRow (setRow (setRow X 15 w_18) 16 w_19) 17 w_8) 19 (X.1 19)) 15 ((oM_ends w_18 w_19 w_8 (X.1 19) ((oM_skims w_7 (X.1 16) (X.1 21) f).1)).2.1)) 16 ((oM_ends w_18 w_19 w_8 (X.1 19) ((oM_skims w_7 (X.1 16) (X.1 21) f).1)).2.2.1)) 19 ((oM_ends w_18 w_19 w_8 (X.1 19) ((oM_skims w_7 (X.1 16) (X.1 21) f).1)).2.2.2) := h_21
  obtain ⟨w_29, ew_29⟩ : ∃ Z9, Z9 = (oM_ends w_18 w_19 w_8 (X.1 19) ((oM_skims w_7 (X.1 16) (X.1 21) f).1)).2.1 := ⟨_, rfl⟩
  obtain ⟨w_30, ew_30⟩ : ∃ Z9, Z9 = (oM_ends w_18 w_19 w_8 (X.1 19) ((oM_skims w_7 (X.1 16) (X.1 21) f).1)).2.2.1 := ⟨_, rfl⟩
  obtain ⟨w_31, ew_31⟩ : ∃ Z9, Z9 = (oM_ends w_18 w_19 w_8 (X.1 19) ((oM_skims w_7 (X.1 16) (X.1 21) f).1)).2.2.2 := ⟨_, rfl⟩
  have qqw_29 : Y_23 = setRow (setRow (setRow (setRow (setRow (setRow (setRow X 15 w_18) 16 w_19) 17 w_8) 19 (X.1 19)) 15 w_29) 16 w_30) 19 w_31 := by rw [h_21, ew_29, ew_30, ew_31]
  have hW_32 : Wd G (setRow (setRow (setRow (setRow X 15 w_29) 16 w_30) 17 w_8) 19 w_31) H_24 := Wd.cast ((((qqw_29).trans (congrArg (fun Z9 => setRow (setRow (Z9) 16 w_30) 19 w_31) (sr_in (by decide) (sr_in (by decide) (sr_in (by decide) sr_out))))).trans (congrArg (fun Z9 => setRow (Z9) 19 w_31) (sr_in (by decide) (sr_in (by decide) sr_out)))).trans (congrArg (fun Z9 => Z9) sr_out)) hW_26
  exact g_iret C hr hlk hW_32 hS_27 dX8_skim_13 (by subst ew_31; subst ew_30; subst ew_29; subst ew_19; subst ew_18; subst ew_8; subst ew_7; exact ⟨(by first | rfl | (simp only [oM_skim, if_true, if_false]; first | done | rfl)), (by first | rfl | (simp only [oM_skim, if_true, if_false]; first | done | rfl))⟩)

def oM_tap (w15 : Nat → Int32) (w16 : Nat → Int32) (w17 : Nat → Int32) (w19 : Nat → Int32) (w20 : Nat → Int32) (w21 : Nat → Int32) (f : Int32) (la : Int32) (ms : Int32) : Int32 × ((Nat → Int32) × ((Nat → Int32) × ((Nat → Int32) × ((Nat → Int32) × (Nat → Int32))))) := ((oM_ends ((oM_taps ((oM_begins (w15) (w16) (w17)).1) (w16) (w20) (w21) f la ms).2.1) ((oM_taps ((oM_begins (w15) (w16) (w17)).1) (w16) (w20) (w21) f la ms).2.2.1) ((oM_begins (w15) (w16) (w17)).2) (w19) ((oM_taps ((oM_begins (w15) (w16) (w17)).1) (w16) (w20) (w21) f la ms).1)).1, ((oM_ends ((oM_taps ((oM_begins (w15) (w16) (w17)).1) (w16) (w20) (w21) f la ms).2.1) ((oM_taps ((oM_begins (w15) (w16) (w17)).1) (w16) (w20) (w21) f la ms).2.2.1) ((oM_begins (w15) (w16) (w17)).2) (w19) ((oM_taps ((oM_begins (w15) (w16) (w17)).1) (w16) (w20) (w21) f la ms).1)).2.1), ((oM_ends ((oM_taps ((oM_begins (w15) (w16) (w17)).1) (w16) (w20) (w21) f la ms).2.1) ((oM_taps ((oM_begins (w15) (w16) (w17)).1) (w16) (w20) (w21) f la ms).2.2.1) ((oM_begins (w15) (w16) (w17)).2) (w19) ((oM_taps ((oM_begins (w15) (w16) (w17)).1) (w16) (w20) (w21) f la ms).1)).2.2.1), ((oM_begins (w15) (w16) (w17)).2), ((oM_ends ((oM_taps ((oM_begins (w15) (w16) (w17)).1) (w16) (w20) (w21) f la ms).2.1) ((oM_taps ((oM_begins (w15) (w16) (w17)).1) (w16) (w20) (w21) f la ms).2.2.1) ((oM_begins (w15) (w16) (w17)).2) (w19) ((oM_taps ((oM_begins (w15) (w16) (w17)).1) (w16) (w20) (w21) f la ms).1)).2.2.2), ((oM_taps ((oM_begins (w15) (w16) (w17)).1) (w16) (w20) (w21) f la ms).2.2.2))
set_option maxHeartbeats 4000000 in
set_option maxRecDepth 100000 in
theorem cX8_tap_ok (l : Launch) (G : GT) (X : St) (f : Int32) (la : Int32) (ms : Int32) (hm : MInv (X.1 16)) (cg : Nat) (hc : cg ≤ 8) (ec : X.1 15 1 = nI cg) : MetI l G yX8_tap (wsG yX8_tap cX8_tap 4 (some .int)) (rmz 4 88) [.ref (ad G 723), .int f, .int la, .int ms] X (fun res Y => res = (oM_tap (X.1 15) (X.1 16) (X.1 17) (X.1 19) (X.1 20) (X.1 21) f la ms).1 ∧ Y = setRow (setRow (setRow (setRow (setRow (X) 15 ((oM_tap (X.1 15) (X.1 16) (X.1 17) (X.1 19) (X.1 20) (X.1 21) f la ms).2.1)) 16 ((oM_tap (X.1 15) (X.1 16) (X.1 17) (X.1 19) (X.1 20) (X.1 21) f la ms).2.2.1)) 17 ((oM_tap (X.1 15) (X.1 16) (X.1 17) (X.1 19) (X.1 20) (X.1 21) f la ms).2.2.2.1)) 19 ((oM_tap (X.1 15) (X.1 16) (X.1 17) (X.1 19) (X.1 20) (X.1 21) f la ms).2.2.2.2.1)) 20 ((oM_tap (X.1 15) (X.1 16) (X.1 17) (X.1 19) (X.1 20) (X.1 21) f la ms).2.2.2.2.2)) := by
  refine g_met (cc := cX8_tap) (maxL := 4) (ret := (some .int)) (by decide) rfl (Nat.le_of_ble_eq_true rfl) ?_
  intro p e s m below meth c ls C hr hlk hnm hW hl
  have hx := C.1.1
  have hb := C.1.2.1
  have hS : va_S (Ab G) s.heap s.heap [] := va_S.rf
  have hl : lv_has ls 4 [(0, .ref (ad G 723)), (1, .int f), (2, .int la), (3, .int ms)] := hl
  have hW : Wd G (setRow (setRow (setRow (setRow (setRow (X) 15 (X.1 15)) 16 (X.1 16)) 17 (X.1 17)) 19 (X.1 19)) 20 (X.1 20)) s.heap := Wd.cast ((((((sr_same (X := setRow (setRow (setRow (setRow (X) 15 (X.1 15)) 16 (X.1 16)) 17 (X.1 17)) 19 (X.1 19)) (r := 20) rfl).trans (sr_same (X := setRow (setRow (setRow (X) 15 (X.1 15)) 16 (X.1 16)) 17 (X.1 17)) (r := 19) rfl)).trans (sr_same (X := setRow (setRow (X) 15 (X.1 15)) 16 (X.1 16)) (r := 17) rfl)).trans (sr_same (X := setRow (X) 15 (X.1 15)) (r := 16) rfl)).trans (sr_same (X := X) (r := 15) rfl))).symm hW
  refine lv_aload_n hx hb dX8_tap_0 rfl (lv_at hl 0 rfl) ?_
  refine g_callv (va_runV (As := []) (rest := []) C.1 (cX8_begins_ok l G (setRow (setRow (setRow (setRow (setRow X 15 (X.1 15)) 16 (X.1 16)) 17 (X.1 17)) 19 (X.1 19)) 20 (X.1 20))) (cwV 0 C.1.2.2.2.2 (gV qw_1551 qw_1553 qw_29 qw_81 qw_1554) rfl rfl rfl (by decide +kernel) ⟨Nat.le_of_ble_eq_true rfl, Nat.le_of_ble_eq_true rfl⟩) (g_rModel C hW hS []) rfl rfl hl.1 rfl (lv_room (Nat.le_of_ble_eq_true rfl)) dX8_tap_1 ⟨Nat.zero_le _, Nat.zero_le _⟩) hS (fun Y_2 H_3 locs_4 hW_5 hS_6 h_1 => ?_)
  replace h_1 : Y_2 = setRow (setRow (setRow (setRow (setRow (setRow (setRow X 15 (X.1 15)) 16 (X.1 16)) 17 (X.1 17)) 19 (X.1 19)) 20 (X.1 20)) 15 ((oM_begins (X.1 15) (X.1 16) (X.1 17)).1)) 17 ((oM_begins (X.1 15) (X.1 16) (X.1 17)).2) := h_1
  obtain ⟨w_7, ew_7⟩ : ∃ Z9, Z9 = (oM_begins (X.1 15) (X.1 16) (X.1 17)).1 := ⟨_, rfl⟩
  obtain ⟨w_8, ew_8⟩ : ∃ Z9, Z9 = (oM_begins (X.1 15) (X.1 16) (X.1 17)).2 := ⟨_, rfl⟩
  have qqw_7 : Y_2 = setRow (setRow (setRow (setRow (setRow (setRow (setRow X 15 (X.1 15)) 16 (X.1 16)) 17 (X.1 17)) 19 (X.1 19)) 20 (X.1 20)) 15 w_7) 17 w_8 := by rw [h_1, ew_7, ew_8]
  have hW_9 : Wd G (setRow (setRow (setRow (setRow (setRow X 15 w_7) 16 (X.1 16)) 17 w_8) 19 (X.1 19)) 20 (X.1 20)) H_3 := Wd.cast (((qqw_7).trans (congrArg (fun Z9 => setRow (Z9) 17 w_8) (sr_in (by decide) (sr_in (by decide) (sr_in (by decide) (sr_in (by decide) sr_out)))))).trans (congrArg (fun Z9 => Z9) (sr_in (by decide) (sr_in (by decide) sr_out)))) hW_5
  refine lv_aload_n hx hb dX8_tap_4 rfl (lv_at hl 0 rfl) ?_
  refine lv_aload_n hx hb dX8_tap_5 rfl (lv_at hl 0 rfl) ?_
  refine lv_iload_n hx hb dX8_tap_6 rfl (lv_at hl 1 rfl) ?_
  refine lv_iload_n hx hb dX8_tap_7 rfl (lv_at hl 2 rfl) ?_
  refine lv_iload_n hx hb dX8_tap_8 rfl (lv_at hl 3 rfl) ?_
  refine g_calli (va_runV (As := [.int f, .int la, .int ms]) (rest := [.ref (ad G 723)]) C.1 (cX8_taps_ok l G (setRow (setRow (setRow (setRow (setRow X 15 w_7) 16 (X.1 16)) 17 w_8) 19 (X.1 19)) 20 (X.1 20)) f la ms hm) (cwV 3 C.1.2.2.2.2 (gV qw_1623 qw_1625 qw_41 qw_81 qw_1626) rfl rfl rfl (by decide +kernel) ⟨Nat.le_of_ble_eq_true rfl, Nat.le_of_ble_eq_true rfl⟩) (g_rModel C hW_9 hS_6 [.int f, .int la, .int ms]) rfl rfl hl.1 rfl (lv_room (Nat.le_of_ble_eq_true rfl)) dX8_tap_9 ⟨Nat.zero_le _, Nat.zero_le _⟩) hS_6 (fun r_11 Y_12 H_13 locs_14 hW_15 hS_16 h_10 => ?_)
  obtain ⟨h_17, h_10⟩ := h_10
  replace h_17 : r_11 = (oM_taps w_7 (X.1 16) (X.1 20) (X.1 21) f la ms).1 := h_17
  subst h_17
  replace h_10 : Y_12 = setRow (setRow (setRow (setRow (setRow (setRow (setRow (setRow X 15 w_7) 16 (X.1 16)) 17 w_8) 19 (X.1 19)) 20 (X.1 20)) 15 ((oM_taps w_7 (X.1 16) (X.1 20) (X.1 21) f la ms).2.1)) 16 ((oM_taps w_7 (X.1 16) (X.1 20) (X.1 21) f la ms).2.2.1)) 20 ((oM_taps w_7 (X.1 16) (X.1 20) (X.1 21) f la ms).2.2.2) := h_10
  obtain ⟨w_18, ew_18⟩ : ∃ Z9, Z9 = (oM_taps w_7 (X.1 16) (X.1 20) (X.1 21) f la ms).2.1 := ⟨_, rfl⟩
  obtain ⟨w_19, ew_19⟩ : ∃ Z9, Z9 = (oM_taps w_7 (X.1 16) (X.1 20) (X.1 21) f la ms).2.2.1 := ⟨_, rfl⟩
  obtain ⟨w_20, ew_20⟩ : ∃ Z9, Z9 = (oM_taps w_7 (X.1 16) (X.1 20) (X.1 21) f la ms).2.2.2 := ⟨_, rfl⟩
  have qqw_18 : Y_12 = setRow (setRow (setRow (setRow (setRow (setRow (setRow (setRow X 15 w_7) 16 (X.1 16)) 17 w_8) 19 (X.1 19)) 20 (X.1 20)) 15 w_18) 16 w_19) 20 w_20 := by rw [h_10, ew_18, ew_19, ew_20]
  have hW_21 : Wd G (setRow (setRow (setRow (setRow (setRow X 15 w_18) 16 w_19) 17 w_8) 19 (X.1 19)) 20 w_20) H_13 := Wd.cast ((((qqw_18).trans (congrArg (fun Z9 => setRow (setRow (Z9) 16 w_19) 20 w_20) (sr_in (by decide) (sr_in (by decide) (sr_in (by decide) (sr_in (by decide) sr_out)))))).trans (congrArg (fun Z9 => setRow (Z9) 20 w_20) (sr_in (by decide) (sr_in (by decide) (sr_in (by decide) sr_out))))).trans (congrArg (fun Z9 => Z9) sr_out)) hW_15
  refine g_calli (va_runV (As := [.int ((oM_taps w_7 (X.1 16) (X.1 20) (X.1 21) f la ms).1)]) (rest := []) C.1 (cX8_ends_ok l G (setRow (setRow (setRow (setRow (setRow X 15 w_18) 16 w_19) 17 w_8) 19 (X.1 19)) 20 w_20) ((oM_taps w_7 (X.1 16) (X.1 20) (X.1 21) f la ms).1) cg hc (by show w_18 1 = nI cg; rw [ew_18, kc_taps (by decide), ew_7]; exact ec)) (cwV 1 C.1.2.2.2.2 (gV qw_1591 qw_1593 qw_36 qw_81 qw_1594) rfl rfl rfl (by decide +kernel) ⟨Nat.le_of_ble_eq_true rfl, Nat.le_of_ble_eq_true rfl⟩) (g_rModel C hW_21 hS_16 [.int ((oM_taps w_7 (X.1 16) (X.1 20) (X.1 21) f la ms).1)]) rfl rfl hl.1 rfl (lv_room (Nat.le_of_ble_eq_true rfl)) dX8_tap_12 ⟨Nat.zero_le _, Nat.zero_le _⟩) hS_16 (fun r_23 Y_24 H_25 locs_26 hW_27 hS_28 h_22 => ?_)
  obtain ⟨h_29, h_22⟩ := h_22
  replace h_29 : r_23 = (oM_ends w_18 w_19 w_8 (X.1 19) ((oM_taps w_7 (X.1 16) (X.1 20) (X.1 21) f la ms).1)).1 := h_29
  subst h_29
  replace h_22 : Y_24 = setRow (setRow (setRow (setRow (setRow (setRow (setRow (setRow X 15 w_18) 16 w_19) 17 w_8) 19 (X.1 19)) 20 w_20) 15 ((oM_ends w_18 w_19 w_8 (X.1 19) ((oM_taps w_7 (X.1 16) (X.1 20) (X.1 21) f la ms).1)).2.1)) 16 ((oM_ends w_18 w_19 w_8 (X.1 19) ((oM_taps w_7 (X.1 16) (X.1 20) (X.1 21) f la ms).1)).2.2.1)) 19 ((oM_ends w_18 w_19 w_8 (X.1 19) ((oM_taps w_7 (X.1 16) (X.1 20) (X.1 21) f la ms).1)).2.2.2) := h_22
  obtain ⟨w_30, ew_30⟩ : ∃ Z9, Z9 = (oM_ends w_18 w_19 w_8 (X.1 19) ((oM_taps w_7 (X.1 16) (X.1 20) (X.1 21) f la ms).1)).2.1 := ⟨_, rfl⟩
  obtain ⟨w_31, ew_31⟩ : ∃ Z9, Z9 = (oM_ends w_18 w_19 w_8 (X.1 19) ((oM_taps w_7 (X.1 16) (X.1 20) (X.1 21) f la ms).1)).2.2.1 := ⟨_, rfl⟩
  obtain ⟨w_32, ew_32⟩ : ∃ Z9, Z9 = (oM_ends w_18 w_19 w_8 (X.1 19) ((oM_taps w_7 (X.1 16) (X.1 20) (X.1 21) f la ms).1)).2.2.2 := ⟨_, rfl⟩
  have qqw_30 : Y_24 = setRow (setRow (setRow (setRow (setRow (setRow (setRow (setRow X 15 w_18) 16 w_19) 17 w_8) 19 (X.1 19)) 20 w_20) 15 w_30) 16 w_31) 19 w_32 := by rw [h_22, ew_30, ew_31, ew_32]
  have hW_33 : Wd G (setRow (setRow (setRow (setRow (setRow X 15 w_30) 16 w_31) 17 w_8) 19 w_32) 20 w_20) H_25 := Wd.cast ((((qqw_30).trans (congrArg (fun Z9 => setRow (setRow (Z9) 16 w_31) 19 w_32) (sr_in (by decide) (sr_in (by decide) (sr_in (by decide) (sr_in (by decide) sr_out)))))).trans (congrArg (fun Z9 => setRow (Z9) 19 w_32) (sr_in (by decide) (sr_in (by decide) (sr_in (by decide) sr_out))))).trans (congrArg (fun Z9 => Z9) (sr_in (by decide) sr_out))) hW_27
  exact g_iret C hr hlk hW_33 hS_28 dX8_tap_15 (by subst ew_32; subst ew_31; subst ew_30; subst ew_20; subst ew_19; subst ew_18; subst ew_8; subst ew_7; exact ⟨(by first | rfl | (simp only [oM_tap, if_true, if_false]; first | done | rfl)), (by first | rfl | (simp only [oM_tap, if_true, if_false]; first | done | rfl))⟩)

def oM_pourBack (w15 : Nat → Int32) (w16 : Nat → Int32) (w17 : Nat → Int32) (w19 : Nat → Int32) (w20 : Nat → Int32) (la : Int32) (f : Int32) : Int32 × ((Nat → Int32) × ((Nat → Int32) × ((Nat → Int32) × ((Nat → Int32) × (Nat → Int32))))) := ((oM_ends ((oM_backs ((oM_begins (w15) (w16) (w17)).1) (w16) (w20) la f).2.1) ((oM_backs ((oM_begins (w15) (w16) (w17)).1) (w16) (w20) la f).2.2.1) ((oM_begins (w15) (w16) (w17)).2) (w19) ((oM_backs ((oM_begins (w15) (w16) (w17)).1) (w16) (w20) la f).1)).1, ((oM_ends ((oM_backs ((oM_begins (w15) (w16) (w17)).1) (w16) (w20) la f).2.1) ((oM_backs ((oM_begins (w15) (w16) (w17)).1) (w16) (w20) la f).2.2.1) ((oM_begins (w15) (w16) (w17)).2) (w19) ((oM_backs ((oM_begins (w15) (w16) (w17)).1) (w16) (w20) la f).1)).2.1), ((oM_ends ((oM_backs ((oM_begins (w15) (w16) (w17)).1) (w16) (w20) la f).2.1) ((oM_backs ((oM_begins (w15) (w16) (w17)).1) (w16) (w20) la f).2.2.1) ((oM_begins (w15) (w16) (w17)).2) (w19) ((oM_backs ((oM_begins (w15) (w16) (w17)).1) (w16) (w20) la f).1)).2.2.1), ((oM_begins (w15) (w16) (w17)).2), ((oM_ends ((oM_backs ((oM_begins (w15) (w16) (w17)).1) (w16) (w20) la f).2.1) ((oM_backs ((oM_begins (w15) (w16) (w17)).1) (w16) (w20) la f).2.2.1) ((oM_begins (w15) (w16) (w17)).2) (w19) ((oM_backs ((oM_begins (w15) (w16) (w17)).1) (w16) (w20) la f).1)).2.2.2), ((oM_backs ((oM_begins (w15) (w16) (w17)).1) (w16) (w20) la f).2.2.2))
set_option maxHeartbeats 4000000 in
set_option maxRecDepth 100000 in
theorem cX8_pourBack_ok (l : Launch) (G : GT) (X : St) (la : Int32) (f : Int32) (hm : MInv (X.1 16)) (cg : Nat) (hc : cg ≤ 8) (ec : X.1 15 1 = nI cg) : MetI l G yX8_pourBack (wsG yX8_pourBack cX8_pourBack 3 (some .int)) (rmz 3 71) [.ref (ad G 723), .int la, .int f] X (fun res Y => res = (oM_pourBack (X.1 15) (X.1 16) (X.1 17) (X.1 19) (X.1 20) la f).1 ∧ Y = setRow (setRow (setRow (setRow (setRow (X) 15 ((oM_pourBack (X.1 15) (X.1 16) (X.1 17) (X.1 19) (X.1 20) la f).2.1)) 16 ((oM_pourBack (X.1 15) (X.1 16) (X.1 17) (X.1 19) (X.1 20) la f).2.2.1)) 17 ((oM_pourBack (X.1 15) (X.1 16) (X.1 17) (X.1 19) (X.1 20) la f).2.2.2.1)) 19 ((oM_pourBack (X.1 15) (X.1 16) (X.1 17) (X.1 19) (X.1 20) la f).2.2.2.2.1)) 20 ((oM_pourBack (X.1 15) (X.1 16) (X.1 17) (X.1 19) (X.1 20) la f).2.2.2.2.2)) := by
  refine g_met (cc := cX8_pourBack) (maxL := 3) (ret := (some .int)) (by decide) rfl (Nat.le_of_ble_eq_true rfl) ?_
  intro p e s m below meth c ls C hr hlk hnm hW hl
  have hx := C.1.1
  have hb := C.1.2.1
  have hS : va_S (Ab G) s.heap s.heap [] := va_S.rf
  have hl : lv_has ls 3 [(0, .ref (ad G 723)), (1, .int la), (2, .int f)] := hl
  have hW : Wd G (setRow (setRow (setRow (setRow (setRow (X) 15 (X.1 15)) 16 (X.1 16)) 17 (X.1 17)) 19 (X.1 19)) 20 (X.1 20)) s.heap := Wd.cast ((((((sr_same (X := setRow (setRow (setRow (setRow (X) 15 (X.1 15)) 16 (X.1 16)) 17 (X.1 17)) 19 (X.1 19)) (r := 20) rfl).trans (sr_same (X := setRow (setRow (setRow (X) 15 (X.1 15)) 16 (X.1 16)) 17 (X.1 17)) (r := 19) rfl)).trans (sr_same (X := setRow (setRow (X) 15 (X.1 15)) 16 (X.1 16)) (r := 17) rfl)).trans (sr_same (X := setRow (X) 15 (X.1 15)) (r := 16) rfl)).trans (sr_same (X := X) (r := 15) rfl))).symm hW
  refine lv_aload_n hx hb dX8_pourBack_0 rfl (lv_at hl 0 rfl) ?_
  refine g_callv (va_runV (As := []) (rest := []) C.1 (cX8_begins_ok l G (setRow (setRow (setRow (setRow (setRow X 15 (X.1 15)) 16 (X.1 16)) 17 (X.1 17)) 19 (X.1 19)) 20 (X.1 20))) (cwV 0 C.1.2.2.2.2 (gV qw_1551 qw_1553 qw_29 qw_81 qw_1554) rfl rfl rfl (by decide +kernel) ⟨Nat.le_of_ble_eq_true rfl, Nat.le_of_ble_eq_true rfl⟩) (g_rModel C hW hS []) rfl rfl hl.1 rfl (lv_room (Nat.le_of_ble_eq_true rfl)) dX8_pourBack_1 ⟨Nat.zero_le _, Nat.zero_le _⟩) hS (fun Y_2 H_3 locs_4 hW_5 hS_6 h_1 => ?_)
  replace h_1 : Y_2 = setRow (setRow (setRow (setRow (setRow (setRow (setRow X 15 (X.1 15)) 16 (X.1 16)) 17 (X.1 17)) 19 (X.1 19)) 20 (X.1 20)) 15 ((oM_begins (X.1 15) (X.1 16) (X.1 17)).1)) 17 ((oM_begins (X.1 15) (X.1 16) (X.1 17)).2) := h_1
  obtain ⟨w_7, ew_7⟩ : ∃ Z9, Z9 = (oM_begins (X.1 15) (X.1 16) (X.1 17)).1 := ⟨_, rfl⟩
  obtain ⟨w_8, ew_8⟩ : ∃ Z9, Z9 = (oM_begins (X.1 15) (X.1 16) (X.1 17)).2 := ⟨_, rfl⟩
  have qqw_7 : Y_2 = setRow (setRow (setRow (setRow (setRow (setRow (setRow X 15 (X.1 15)) 16 (X.1 16)) 17 (X.1 17)) 19 (X.1 19)) 20 (X.1 20)) 15 w_7) 17 w_8 := by rw [h_1, ew_7, ew_8]
  have hW_9 : Wd G (setRow (setRow (setRow (setRow (setRow X 15 w_7) 16 (X.1 16)) 17 w_8) 19 (X.1 19)) 20 (X.1 20)) H_3 := Wd.cast (((qqw_7).trans (congrArg (fun Z9 => setRow (Z9) 17 w_8) (sr_in (by decide) (sr_in (by decide) (sr_in (by decide) (sr_in (by decide) sr_out)))))).trans (congrArg (fun Z9 => Z9) (sr_in (by decide) (sr_in (by decide) sr_out)))) hW_5
  refine lv_aload_n hx hb dX8_pourBack_4 rfl (lv_at hl 0 rfl) ?_
  refine lv_aload_n hx hb dX8_pourBack_5 rfl (lv_at hl 0 rfl) ?_
  refine lv_iload_n hx hb dX8_pourBack_6 rfl (lv_at hl 1 rfl) ?_
  refine lv_iload_n hx hb dX8_pourBack_7 rfl (lv_at hl 2 rfl) ?_
  refine g_calli (va_runV (As := [.int la, .int f]) (rest := [.ref (ad G 723)]) C.1 (cX8_backs_ok l G (setRow (setRow (setRow (setRow (setRow X 15 w_7) 16 (X.1 16)) 17 w_8) 19 (X.1 19)) 20 (X.1 20)) la f hm) (cwV 2 C.1.2.2.2.2 (gV qw_1639 qw_1641 qw_44 qw_81 qw_1642) rfl rfl rfl (by decide +kernel) ⟨Nat.le_of_ble_eq_true rfl, Nat.le_of_ble_eq_true rfl⟩) (g_rModel C hW_9 hS_6 [.int la, .int f]) rfl rfl hl.1 rfl (lv_room (Nat.le_of_ble_eq_true rfl)) dX8_pourBack_8 ⟨Nat.zero_le _, Nat.zero_le _⟩) hS_6 (fun r_11 Y_12 H_13 locs_14 hW_15 hS_16 h_10 => ?_)
  obtain ⟨h_17, h_10⟩ := h_10
  replace h_17 : r_11 = (oM_backs w_7 (X.1 16) (X.1 20) la f).1 := h_17
  subst h_17
  replace h_10 : Y_12 = setRow (setRow (setRow (setRow (setRow (setRow (setRow (setRow X 15 w_7) 16 (X.1 16)) 17 w_8) 19 (X.1 19)) 20 (X.1 20)) 15 ((oM_backs w_7 (X.1 16) (X.1 20) la f).2.1)) 16 ((oM_backs w_7 (X.1 16) (X.1 20) la f).2.2.1)) 20 ((oM_backs w_7 (X.1 16) (X.1 20) la f).2.2.2) := h_10
  obtain ⟨w_18, ew_18⟩ : ∃ Z9, Z9 = (oM_backs w_7 (X.1 16) (X.1 20) la f).2.1 := ⟨_, rfl⟩
  obtain ⟨w_19, ew_19⟩ : ∃ Z9, Z9 = (oM_backs w_7 (X.1 16) (X.1 20) la f).2.2.1 := ⟨_, rfl⟩
  obtain ⟨w_20, ew_20⟩ : ∃ Z9, Z9 = (oM_backs w_7 (X.1 16) (X.1 20) la f).2.2.2 := ⟨_, rfl⟩
  have qqw_18 : Y_12 = setRow (setRow (setRow (setRow (setRow (setRow (setRow (setRow X 15 w_7) 16 (X.1 16)) 17 w_8) 19 (X.1 19)) 20 (X.1 20)) 15 w_18) 16 w_19) 20 w_20 := by rw [h_10, ew_18, ew_19, ew_20]
  have hW_21 : Wd G (setRow (setRow (setRow (setRow (setRow X 15 w_18) 16 w_19) 17 w_8) 19 (X.1 19)) 20 w_20) H_13 := Wd.cast ((((qqw_18).trans (congrArg (fun Z9 => setRow (setRow (Z9) 16 w_19) 20 w_20) (sr_in (by decide) (sr_in (by decide) (sr_in (by decide) (sr_in (by decide) sr_out)))))).trans (congrArg (fun Z9 => setRow (Z9) 20 w_20) (sr_in (by decide) (sr_in (by decide) (sr_in (by decide) sr_out))))).trans (congrArg (fun Z9 => Z9) sr_out)) hW_15
  refine g_calli (va_runV (As := [.int ((oM_backs w_7 (X.1 16) (X.1 20) la f).1)]) (rest := []) C.1 (cX8_ends_ok l G (setRow (setRow (setRow (setRow (setRow X 15 w_18) 16 w_19) 17 w_8) 19 (X.1 19)) 20 w_20) ((oM_backs w_7 (X.1 16) (X.1 20) la f).1) cg hc (by show w_18 1 = nI cg; rw [ew_18, kc_backs (by decide), ew_7]; exact ec)) (cwV 1 C.1.2.2.2.2 (gV qw_1591 qw_1593 qw_36 qw_81 qw_1594) rfl rfl rfl (by decide +kernel) ⟨Nat.le_of_ble_eq_true rfl, Nat.le_of_ble_eq_true rfl⟩) (g_rModel C hW_21 hS_16 [.int ((oM_backs w_7 (X.1 16) (X.1 20) la f).1)]) rfl rfl hl.1 rfl (lv_room (Nat.le_of_ble_eq_true rfl)) dX8_pourBack_11 ⟨Nat.zero_le _, Nat.zero_le _⟩) hS_16 (fun r_23 Y_24 H_25 locs_26 hW_27 hS_28 h_22 => ?_)
  obtain ⟨h_29, h_22⟩ := h_22
  replace h_29 : r_23 = (oM_ends w_18 w_19 w_8 (X.1 19) ((oM_backs w_7 (X.1 16) (X.1 20) la f).1)).1 := h_29
  subst h_29
  replace h_22 : Y_24 = setRow (setRow (setRow (setRow (setRow (setRow (setRow (setRow X 15 w_18) 16 w_19) 17 w_8) 19 (X.1 19)) 20 w_20) 15 ((oM_ends w_18 w_19 w_8 (X.1 19) ((oM_backs w_7 (X.1 16) (X.1 20) la f).1)).2.1)) 16 ((oM_ends w_18 w_19 w_8 (X.1 19) ((oM_backs w_7 (X.1 16) (X.1 20) la f).1)).2.2.1)) 19 ((oM_ends w_18 w_19 w_8 (X.1 19) ((oM_backs w_7 (X.1 16) (X.1 20) la f).1)).2.2.2) := h_22
  obtain ⟨w_30, ew_30⟩ : ∃ Z9, Z9 = (oM_ends w_18 w_19 w_8 (X.1 19) ((oM_backs w_7 (X.1 16) (X.1 20) la f).1)).2.1 := ⟨_, rfl⟩
  obtain ⟨w_31, ew_31⟩ : ∃ Z9, Z9 = (oM_ends w_18 w_19 w_8 (X.1 19) ((oM_backs w_7 (X.1 16) (X.1 20) la f).1)).2.2.1 := ⟨_, rfl⟩
  obtain ⟨w_32, ew_32⟩ : ∃ Z9, Z9 = (oM_ends w_18 w_19 w_8 (X.1 19) ((oM_backs w_7 (X.1 16) (X.1 20) la f).1)).2.2.2 := ⟨_, rfl⟩
  have qqw_30 : Y_24 = setRow (setRow (setRow (setRow (setRow (setRow (setRow (setRow X 15 w_18) 16 w_19) 17 w_8) 19 (X.1 19)) 20 w_20) 15 w_30) 16 w_31) 19 w_32 := by rw [h_22, ew_30, ew_31, ew_32]
  have hW_33 : Wd G (setRow (setRow (setRow (setRow (setRow X 15 w_30) 16 w_31) 17 w_8) 19 w_32) 20 w_20) H_25 := Wd.cast ((((qqw_30).trans (congrArg (fun Z9 => setRow (setRow (Z9) 16 w_31) 19 w_32) (sr_in (by decide) (sr_in (by decide) (sr_in (by decide) (sr_in (by decide) sr_out)))))).trans (congrArg (fun Z9 => setRow (Z9) 19 w_32) (sr_in (by decide) (sr_in (by decide) (sr_in (by decide) sr_out))))).trans (congrArg (fun Z9 => Z9) (sr_in (by decide) sr_out))) hW_27
  exact g_iret C hr hlk hW_33 hS_28 dX8_pourBack_14 (by subst ew_32; subst ew_31; subst ew_30; subst ew_20; subst ew_19; subst ew_18; subst ew_8; subst ew_7; exact ⟨(by first | rfl | (simp only [oM_pourBack, if_true, if_false]; first | done | rfl)), (by first | rfl | (simp only [oM_pourBack, if_true, if_false]; first | done | rfl))⟩)

def oM_addMould (w15 : Nat → Int32) (w16 : Nat → Int32) (w17 : Nat → Int32) (w19 : Nat → Int32) (vo : Int32) : Int32 × ((Nat → Int32) × ((Nat → Int32) × ((Nat → Int32) × (Nat → Int32)))) := ((oM_ends ((oM_addsMould ((oM_begins (w15) (w16) (w17)).1) (w16) vo).2.1) ((oM_addsMould ((oM_begins (w15) (w16) (w17)).1) (w16) vo).2.2) ((oM_begins (w15) (w16) (w17)).2) (w19) ((oM_addsMould ((oM_begins (w15) (w16) (w17)).1) (w16) vo).1)).1, ((oM_ends ((oM_addsMould ((oM_begins (w15) (w16) (w17)).1) (w16) vo).2.1) ((oM_addsMould ((oM_begins (w15) (w16) (w17)).1) (w16) vo).2.2) ((oM_begins (w15) (w16) (w17)).2) (w19) ((oM_addsMould ((oM_begins (w15) (w16) (w17)).1) (w16) vo).1)).2.1), ((oM_ends ((oM_addsMould ((oM_begins (w15) (w16) (w17)).1) (w16) vo).2.1) ((oM_addsMould ((oM_begins (w15) (w16) (w17)).1) (w16) vo).2.2) ((oM_begins (w15) (w16) (w17)).2) (w19) ((oM_addsMould ((oM_begins (w15) (w16) (w17)).1) (w16) vo).1)).2.2.1), ((oM_begins (w15) (w16) (w17)).2), ((oM_ends ((oM_addsMould ((oM_begins (w15) (w16) (w17)).1) (w16) vo).2.1) ((oM_addsMould ((oM_begins (w15) (w16) (w17)).1) (w16) vo).2.2) ((oM_begins (w15) (w16) (w17)).2) (w19) ((oM_addsMould ((oM_begins (w15) (w16) (w17)).1) (w16) vo).1)).2.2.2))
set_option maxHeartbeats 4000000 in
set_option maxRecDepth 100000 in
theorem cX8_addMould_ok (l : Launch) (G : GT) (X : St) (vo : Int32) (hm : MInv (X.1 16)) (cg : Nat) (hc : cg ≤ 8) (ec : X.1 15 1 = nI cg) : MetI l G yX8_addMould (wsG yX8_addMould cX8_addMould 2 (some .int)) (rmz 2 45) [.ref (ad G 723), .int vo] X (fun res Y => res = (oM_addMould (X.1 15) (X.1 16) (X.1 17) (X.1 19) vo).1 ∧ Y = setRow (setRow (setRow (setRow (X) 15 ((oM_addMould (X.1 15) (X.1 16) (X.1 17) (X.1 19) vo).2.1)) 16 ((oM_addMould (X.1 15) (X.1 16) (X.1 17) (X.1 19) vo).2.2.1)) 17 ((oM_addMould (X.1 15) (X.1 16) (X.1 17) (X.1 19) vo).2.2.2.1)) 19 ((oM_addMould (X.1 15) (X.1 16) (X.1 17) (X.1 19) vo).2.2.2.2)) := by
  refine g_met (cc := cX8_addMould) (maxL := 2) (ret := (some .int)) (by decide) rfl (Nat.le_of_ble_eq_true rfl) ?_
  intro p e s m below meth c ls C hr hlk hnm hW hl
  have hx := C.1.1
  have hb := C.1.2.1
  have hS : va_S (Ab G) s.heap s.heap [] := va_S.rf
  have hl : lv_has ls 2 [(0, .ref (ad G 723)), (1, .int vo)] := hl
  have hW : Wd G (setRow (setRow (setRow (setRow (X) 15 (X.1 15)) 16 (X.1 16)) 17 (X.1 17)) 19 (X.1 19)) s.heap := Wd.cast (((((sr_same (X := setRow (setRow (setRow (X) 15 (X.1 15)) 16 (X.1 16)) 17 (X.1 17)) (r := 19) rfl).trans (sr_same (X := setRow (setRow (X) 15 (X.1 15)) 16 (X.1 16)) (r := 17) rfl)).trans (sr_same (X := setRow (X) 15 (X.1 15)) (r := 16) rfl)).trans (sr_same (X := X) (r := 15) rfl))).symm hW
  refine lv_aload_n hx hb dX8_addMould_0 rfl (lv_at hl 0 rfl) ?_
  refine g_callv (va_runV (As := []) (rest := []) C.1 (cX8_begins_ok l G (setRow (setRow (setRow (setRow X 15 (X.1 15)) 16 (X.1 16)) 17 (X.1 17)) 19 (X.1 19))) (cwV 0 C.1.2.2.2.2 (gV qw_1551 qw_1553 qw_29 qw_81 qw_1554) rfl rfl rfl (by decide +kernel) ⟨Nat.le_of_ble_eq_true rfl, Nat.le_of_ble_eq_true rfl⟩) (g_rModel C hW hS []) rfl rfl hl.1 rfl (lv_room (Nat.le_of_ble_eq_true rfl)) dX8_addMould_1 ⟨Nat.zero_le _, Nat.zero_le _⟩) hS (fun Y_2 H_3 locs_4 hW_5 hS_6 h_1 => ?_)
  replace h_1 : Y_2 = setRow (setRow (setRow (setRow (setRow (setRow X 15 (X.1 15)) 16 (X.1 16)) 17 (X.1 17)) 19 (X.1 19)) 15 ((oM_begins (X.1 15) (X.1 16) (X.1 17)).1)) 17 ((oM_begins (X.1 15) (X.1 16) (X.1 17)).2) := h_1
  obtain ⟨w_7, ew_7⟩ : ∃ Z9, Z9 = (oM_begins (X.1 15) (X.1 16) (X.1 17)).1 := ⟨_, rfl⟩
  obtain ⟨w_8, ew_8⟩ : ∃ Z9, Z9 = (oM_begins (X.1 15) (X.1 16) (X.1 17)).2 := ⟨_, rfl⟩
  have qqw_7 : Y_2 = setRow (setRow (setRow (setRow (setRow (setRow X 15 (X.1 15)) 16 (X.1 16)) 17 (X.1 17)) 19 (X.1 19)) 15 w_7) 17 w_8 := by rw [h_1, ew_7, ew_8]
  have hW_9 : Wd G (setRow (setRow (setRow (setRow X 15 w_7) 16 (X.1 16)) 17 w_8) 19 (X.1 19)) H_3 := Wd.cast (((qqw_7).trans (congrArg (fun Z9 => setRow (Z9) 17 w_8) (sr_in (by decide) (sr_in (by decide) (sr_in (by decide) sr_out))))).trans (congrArg (fun Z9 => Z9) (sr_in (by decide) sr_out))) hW_5
  refine lv_aload_n hx hb dX8_addMould_4 rfl (lv_at hl 0 rfl) ?_
  refine lv_aload_n hx hb dX8_addMould_5 rfl (lv_at hl 0 rfl) ?_
  refine lv_iload_n hx hb dX8_addMould_6 rfl (lv_at hl 1 rfl) ?_
  refine g_calli (va_runV (As := [.int vo]) (rest := [.ref (ad G 723)]) C.1 (cX8_addsMould_ok l G (setRow (setRow (setRow (setRow X 15 w_7) 16 (X.1 16)) 17 w_8) 19 (X.1 19)) vo hm) (cwV 1 C.1.2.2.2.2 (gV qw_1651 qw_1653 qw_46 qw_81 qw_1654) rfl rfl rfl (by decide +kernel) ⟨Nat.le_of_ble_eq_true rfl, Nat.le_of_ble_eq_true rfl⟩) (g_rModel C hW_9 hS_6 [.int vo]) rfl rfl hl.1 rfl (lv_room (Nat.le_of_ble_eq_true rfl)) dX8_addMould_7 ⟨Nat.zero_le _, Nat.zero_le _⟩) hS_6 (fun r_11 Y_12 H_13 locs_14 hW_15 hS_16 h_10 => ?_)
  obtain ⟨h_17, h_10⟩ := h_10
  replace h_17 : r_11 = (oM_addsMould w_7 (X.1 16) vo).1 := h_17
  subst h_17
  replace h_10 : Y_12 = setRow (setRow (setRow (setRow (setRow (setRow X 15 w_7) 16 (X.1 16)) 17 w_8) 19 (X.1 19)) 15 ((oM_addsMould w_7 (X.1 16) vo).2.1)) 16 ((oM_addsMould w_7 (X.1 16) vo).2.2) := h_10
  obtain ⟨w_18, ew_18⟩ : ∃ Z9, Z9 = (oM_addsMould w_7 (X.1 16) vo).2.1 := ⟨_, rfl⟩
  obtain ⟨w_19, ew_19⟩ : ∃ Z9, Z9 = (oM_addsMould w_7 (X.1 16) vo).2.2 := ⟨_, rfl⟩
  have qqw_18 : Y_12 = setRow (setRow (setRow (setRow (setRow (setRow X 15 w_7) 16 (X.1 16)) 17 w_8) 19 (X.1 19)) 15 w_18) 16 w_19 := by rw [h_10, ew_18, ew_19]
  have hW_20 : Wd G (setRow (setRow (setRow (setRow X 15 w_18) 16 w_19) 17 w_8) 19 (X.1 19)) H_13 := Wd.cast (((qqw_18).trans (congrArg (fun Z9 => setRow (Z9) 16 w_19) (sr_in (by decide) (sr_in (by decide) (sr_in (by decide) sr_out))))).trans (congrArg (fun Z9 => Z9) (sr_in (by decide) (sr_in (by decide) sr_out)))) hW_15
  refine g_calli (va_runV (As := [.int ((oM_addsMould w_7 (X.1 16) vo).1)]) (rest := []) C.1 (cX8_ends_ok l G (setRow (setRow (setRow (setRow X 15 w_18) 16 w_19) 17 w_8) 19 (X.1 19)) ((oM_addsMould w_7 (X.1 16) vo).1) cg hc (by show w_18 1 = nI cg; rw [ew_18, kc_addsMould (by decide), ew_7]; exact ec)) (cwV 1 C.1.2.2.2.2 (gV qw_1591 qw_1593 qw_36 qw_81 qw_1594) rfl rfl rfl (by decide +kernel) ⟨Nat.le_of_ble_eq_true rfl, Nat.le_of_ble_eq_true rfl⟩) (g_rModel C hW_20 hS_16 [.int ((oM_addsMould w_7 (X.1 16) vo).1)]) rfl rfl hl.1 rfl (lv_room (Nat.le_of_ble_eq_true rfl)) dX8_addMould_10 ⟨Nat.zero_le _, Nat.zero_le _⟩) hS_16 (fun r_22 Y_23 H_24 locs_25 hW_26 hS_27 h_21 => ?_)
  obtain ⟨h_28, h_21⟩ := h_21
  replace h_28 : r_22 = (oM_ends w_18 w_19 w_8 (X.1 19) ((oM_addsMould w_7 (X.1 16) vo).1)).1 := h_28
  subst h_28
  replace h_21 : Y_23 = setRow (setRow (setRow (setRow (setRow (setRow (setRow X 15 w_18) 16 w_19) 17 w_8) 19 (X.1 19)) 15 ((oM_ends w_18 w_19 w_8 (X.1 19) ((oM_addsMould w_7 (X.1 16) vo).1)).2.1)) 16 ((oM_ends w_18 w_19 w_8 (X.1 19) ((oM_addsMould w_7 (X.1 16) vo).1)).2.2.1)) 19 ((oM_ends w_18 w_19 w_8 (X.1 19) ((oM_addsMould w_7 (X.1 16) vo).1)).2.2.2) := h_21
  obtain ⟨w_29, ew_29⟩ : ∃ Z9, Z9 = (oM_ends w_18 w_19 w_8 (X.1 19) ((oM_addsMould w_7 (X.1 16) vo).1)).2.1 := ⟨_, rfl⟩
  obtain ⟨w_30, ew_30⟩ : ∃ Z9, Z9 = (oM_ends w_18 w_19 w_8 (X.1 19) ((oM_addsMould w_7 (X.1 16) vo).1)).2.2.1 := ⟨_, rfl⟩
  obtain ⟨w_31, ew_31⟩ : ∃ Z9, Z9 = (oM_ends w_18 w_19 w_8 (X.1 19) ((oM_addsMould w_7 (X.1 16) vo).1)).2.2.2 := ⟨_, rfl⟩
  have qqw_29 : Y_23 = setRow (setRow (setRow (setRow (setRow (setRow (setRow X 15 w_18) 16 w_19) 17 w_8) 19 (X.1 19)) 15 w_29) 16 w_30) 19 w_31 := by rw [h_21, ew_29, ew_30, ew_31]
  have hW_32 : Wd G (setRow (setRow (setRow (setRow X 15 w_29) 16 w_30) 17 w_8) 19 w_31) H_24 := Wd.cast ((((qqw_29).trans (congrArg (fun Z9 => setRow (setRow (Z9) 16 w_30) 19 w_31) (sr_in (by decide) (sr_in (by decide) (sr_in (by decide) sr_out))))).trans (congrArg (fun Z9 => setRow (Z9) 19 w_31) (sr_in (by decide) (sr_in (by decide) sr_out)))).trans (congrArg (fun Z9 => Z9) sr_out)) hW_26
  exact g_iret C hr hlk hW_32 hS_27 dX8_addMould_13 (by subst ew_31; subst ew_30; subst ew_29; subst ew_19; subst ew_18; subst ew_8; subst ew_7; exact ⟨(by first | rfl | (simp only [oM_addMould, if_true, if_false]; first | done | rfl)), (by first | rfl | (simp only [oM_addMould, if_true, if_false]; first | done | rfl))⟩)

def oM_pour (w15 : Nat → Int32) (w16 : Nat → Int32) (w17 : Nat → Int32) (w19 : Nat → Int32) (w20 : Nat → Int32) (w21 : Nat → Int32) (la : Int32) (mo : Int32) : Int32 × ((Nat → Int32) × ((Nat → Int32) × ((Nat → Int32) × ((Nat → Int32) × (Nat → Int32))))) := ((oM_ends ((oM_pours ((oM_begins (w15) (w16) (w17)).1) (w16) (w20) (w21) la mo).2.1) ((oM_pours ((oM_begins (w15) (w16) (w17)).1) (w16) (w20) (w21) la mo).2.2.1) ((oM_begins (w15) (w16) (w17)).2) (w19) ((oM_pours ((oM_begins (w15) (w16) (w17)).1) (w16) (w20) (w21) la mo).1)).1, ((oM_ends ((oM_pours ((oM_begins (w15) (w16) (w17)).1) (w16) (w20) (w21) la mo).2.1) ((oM_pours ((oM_begins (w15) (w16) (w17)).1) (w16) (w20) (w21) la mo).2.2.1) ((oM_begins (w15) (w16) (w17)).2) (w19) ((oM_pours ((oM_begins (w15) (w16) (w17)).1) (w16) (w20) (w21) la mo).1)).2.1), ((oM_ends ((oM_pours ((oM_begins (w15) (w16) (w17)).1) (w16) (w20) (w21) la mo).2.1) ((oM_pours ((oM_begins (w15) (w16) (w17)).1) (w16) (w20) (w21) la mo).2.2.1) ((oM_begins (w15) (w16) (w17)).2) (w19) ((oM_pours ((oM_begins (w15) (w16) (w17)).1) (w16) (w20) (w21) la mo).1)).2.2.1), ((oM_begins (w15) (w16) (w17)).2), ((oM_ends ((oM_pours ((oM_begins (w15) (w16) (w17)).1) (w16) (w20) (w21) la mo).2.1) ((oM_pours ((oM_begins (w15) (w16) (w17)).1) (w16) (w20) (w21) la mo).2.2.1) ((oM_begins (w15) (w16) (w17)).2) (w19) ((oM_pours ((oM_begins (w15) (w16) (w17)).1) (w16) (w20) (w21) la mo).1)).2.2.2), ((oM_pours ((oM_begins (w15) (w16) (w17)).1) (w16) (w20) (w21) la mo).2.2.2))
set_option maxHeartbeats 4000000 in
set_option maxRecDepth 100000 in
theorem cX8_pour_ok (l : Launch) (G : GT) (X : St) (la : Int32) (mo : Int32) (hm : MInv (X.1 16)) (cg : Nat) (hc : cg ≤ 8) (ec : X.1 15 1 = nI cg) : MetI l G yX8_pour (wsG yX8_pour cX8_pour 3 (some .int)) (rmz 4 89) [.ref (ad G 723), .int la, .int mo] X (fun res Y => res = (oM_pour (X.1 15) (X.1 16) (X.1 17) (X.1 19) (X.1 20) (X.1 21) la mo).1 ∧ Y = setRow (setRow (setRow (setRow (setRow (X) 15 ((oM_pour (X.1 15) (X.1 16) (X.1 17) (X.1 19) (X.1 20) (X.1 21) la mo).2.1)) 16 ((oM_pour (X.1 15) (X.1 16) (X.1 17) (X.1 19) (X.1 20) (X.1 21) la mo).2.2.1)) 17 ((oM_pour (X.1 15) (X.1 16) (X.1 17) (X.1 19) (X.1 20) (X.1 21) la mo).2.2.2.1)) 19 ((oM_pour (X.1 15) (X.1 16) (X.1 17) (X.1 19) (X.1 20) (X.1 21) la mo).2.2.2.2.1)) 20 ((oM_pour (X.1 15) (X.1 16) (X.1 17) (X.1 19) (X.1 20) (X.1 21) la mo).2.2.2.2.2)) := by
  refine g_met (cc := cX8_pour) (maxL := 3) (ret := (some .int)) (by decide) rfl (Nat.le_of_ble_eq_true rfl) ?_
  intro p e s m below meth c ls C hr hlk hnm hW hl
  have hx := C.1.1
  have hb := C.1.2.1
  have hS : va_S (Ab G) s.heap s.heap [] := va_S.rf
  have hl : lv_has ls 3 [(0, .ref (ad G 723)), (1, .int la), (2, .int mo)] := hl
  have hW : Wd G (setRow (setRow (setRow (setRow (setRow (X) 15 (X.1 15)) 16 (X.1 16)) 17 (X.1 17)) 19 (X.1 19)) 20 (X.1 20)) s.heap := Wd.cast ((((((sr_same (X := setRow (setRow (setRow (setRow (X) 15 (X.1 15)) 16 (X.1 16)) 17 (X.1 17)) 19 (X.1 19)) (r := 20) rfl).trans (sr_same (X := setRow (setRow (setRow (X) 15 (X.1 15)) 16 (X.1 16)) 17 (X.1 17)) (r := 19) rfl)).trans (sr_same (X := setRow (setRow (X) 15 (X.1 15)) 16 (X.1 16)) (r := 17) rfl)).trans (sr_same (X := setRow (X) 15 (X.1 15)) (r := 16) rfl)).trans (sr_same (X := X) (r := 15) rfl))).symm hW
  refine lv_aload_n hx hb dX8_pour_0 rfl (lv_at hl 0 rfl) ?_
  refine g_callv (va_runV (As := []) (rest := []) C.1 (cX8_begins_ok l G (setRow (setRow (setRow (setRow (setRow X 15 (X.1 15)) 16 (X.1 16)) 17 (X.1 17)) 19 (X.1 19)) 20 (X.1 20))) (cwV 0 C.1.2.2.2.2 (gV qw_1551 qw_1553 qw_29 qw_81 qw_1554) rfl rfl rfl (by decide +kernel) ⟨Nat.le_of_ble_eq_true rfl, Nat.le_of_ble_eq_true rfl⟩) (g_rModel C hW hS []) rfl rfl hl.1 rfl (lv_room (Nat.le_of_ble_eq_true rfl)) dX8_pour_1 ⟨Nat.zero_le _, Nat.zero_le _⟩) hS (fun Y_2 H_3 locs_4 hW_5 hS_6 h_1 => ?_)
  replace h_1 : Y_2 = setRow (setRow (setRow (setRow (setRow (setRow (setRow X 15 (X.1 15)) 16 (X.1 16)) 17 (X.1 17)) 19 (X.1 19)) 20 (X.1 20)) 15 ((oM_begins (X.1 15) (X.1 16) (X.1 17)).1)) 17 ((oM_begins (X.1 15) (X.1 16) (X.1 17)).2) := h_1
  obtain ⟨w_7, ew_7⟩ : ∃ Z9, Z9 = (oM_begins (X.1 15) (X.1 16) (X.1 17)).1 := ⟨_, rfl⟩
  obtain ⟨w_8, ew_8⟩ : ∃ Z9, Z9 = (oM_begins (X.1 15) (X.1 16) (X.1 17)).2 := ⟨_, rfl⟩
  have qqw_7 : Y_2 = setRow (setRow (setRow (setRow (setRow (setRow (setRow X 15 (X.1 15)) 16 (X.1 16)) 17 (X.1 17)) 19 (X.1 19)) 20 (X.1 20)) 15 w_7) 17 w_8 := by rw [h_1, ew_7, ew_8]
  have hW_9 : Wd G (setRow (setRow (setRow (setRow (setRow X 15 w_7) 16 (X.1 16)) 17 w_8) 19 (X.1 19)) 20 (X.1 20)) H_3 := Wd.cast (((qqw_7).trans (congrArg (fun Z9 => setRow (Z9) 17 w_8) (sr_in (by decide) (sr_in (by decide) (sr_in (by decide) (sr_in (by decide) sr_out)))))).trans (congrArg (fun Z9 => Z9) (sr_in (by decide) (sr_in (by decide) sr_out)))) hW_5
  refine lv_aload_n hx hb dX8_pour_4 rfl (lv_at hl 0 rfl) ?_
  refine lv_aload_n hx hb dX8_pour_5 rfl (lv_at hl 0 rfl) ?_
  refine lv_iload_n hx hb dX8_pour_6 rfl (lv_at hl 1 rfl) ?_
  refine lv_iload_n hx hb dX8_pour_7 rfl (lv_at hl 2 rfl) ?_
  refine g_calli (va_runV (As := [.int la, .int mo]) (rest := [.ref (ad G 723)]) C.1 (cX8_pours_ok l G (setRow (setRow (setRow (setRow (setRow X 15 w_7) 16 (X.1 16)) 17 w_8) 19 (X.1 19)) 20 (X.1 20)) la mo hm) (cwV 2 C.1.2.2.2.2 (gV qw_1662 qw_1664 qw_47 qw_81 qw_1665) rfl rfl rfl (by decide +kernel) ⟨Nat.le_of_ble_eq_true rfl, Nat.le_of_ble_eq_true rfl⟩) (g_rModel C hW_9 hS_6 [.int la, .int mo]) rfl rfl hl.1 rfl (lv_room (Nat.le_of_ble_eq_true rfl)) dX8_pour_8 ⟨Nat.zero_le _, Nat.zero_le _⟩) hS_6 (fun r_11 Y_12 H_13 locs_14 hW_15 hS_16 h_10 => ?_)
  obtain ⟨h_17, h_10⟩ := h_10
  replace h_17 : r_11 = (oM_pours w_7 (X.1 16) (X.1 20) (X.1 21) la mo).1 := h_17
  subst h_17
  replace h_10 : Y_12 = setRow (setRow (setRow (setRow (setRow (setRow (setRow (setRow X 15 w_7) 16 (X.1 16)) 17 w_8) 19 (X.1 19)) 20 (X.1 20)) 15 ((oM_pours w_7 (X.1 16) (X.1 20) (X.1 21) la mo).2.1)) 16 ((oM_pours w_7 (X.1 16) (X.1 20) (X.1 21) la mo).2.2.1)) 20 ((oM_pours w_7 (X.1 16) (X.1 20) (X.1 21) la mo).2.2.2) := h_10
  obtain ⟨w_18, ew_18⟩ : ∃ Z9, Z9 = (oM_pours w_7 (X.1 16) (X.1 20) (X.1 21) la mo).2.1 := ⟨_, rfl⟩
  obtain ⟨w_19, ew_19⟩ : ∃ Z9, Z9 = (oM_pours w_7 (X.1 16) (X.1 20) (X.1 21) la mo).2.2.1 := ⟨_, rfl⟩
  obtain ⟨w_20, ew_20⟩ : ∃ Z9, Z9 = (oM_pours w_7 (X.1 16) (X.1 20) (X.1 21) la mo).2.2.2 := ⟨_, rfl⟩
  have qqw_18 : Y_12 = setRow (setRow (setRow (setRow (setRow (setRow (setRow (setRow X 15 w_7) 16 (X.1 16)) 17 w_8) 19 (X.1 19)) 20 (X.1 20)) 15 w_18) 16 w_19) 20 w_20 := by rw [h_10, ew_18, ew_19, ew_20]
  have hW_21 : Wd G (setRow (setRow (setRow (setRow (setRow X 15 w_18) 16 w_19) 17 w_8) 19 (X.1 19)) 20 w_20) H_13 := Wd.cast ((((qqw_18).trans (congrArg (fun Z9 => setRow (setRow (Z9) 16 w_19) 20 w_20) (sr_in (by decide) (sr_in (by decide) (sr_in (by decide) (sr_in (by decide) sr_out)))))).trans (congrArg (fun Z9 => setRow (Z9) 20 w_20) (sr_in (by decide) (sr_in (by decide) (sr_in (by decide) sr_out))))).trans (congrArg (fun Z9 => Z9) sr_out)) hW_15
  refine g_calli (va_runV (As := [.int ((oM_pours w_7 (X.1 16) (X.1 20) (X.1 21) la mo).1)]) (rest := []) C.1 (cX8_ends_ok l G (setRow (setRow (setRow (setRow (setRow X 15 w_18) 16 w_19) 17 w_8) 19 (X.1 19)) 20 w_20) ((oM_pours w_7 (X.1 16) (X.1 20) (X.1 21) la mo).1) cg hc (by show w_18 1 = nI cg; rw [ew_18, kc_pours (by decide), ew_7]; exact ec)) (cwV 1 C.1.2.2.2.2 (gV qw_1591 qw_1593 qw_36 qw_81 qw_1594) rfl rfl rfl (by decide +kernel) ⟨Nat.le_of_ble_eq_true rfl, Nat.le_of_ble_eq_true rfl⟩) (g_rModel C hW_21 hS_16 [.int ((oM_pours w_7 (X.1 16) (X.1 20) (X.1 21) la mo).1)]) rfl rfl hl.1 rfl (lv_room (Nat.le_of_ble_eq_true rfl)) dX8_pour_11 ⟨Nat.zero_le _, Nat.zero_le _⟩) hS_16 (fun r_23 Y_24 H_25 locs_26 hW_27 hS_28 h_22 => ?_)
  obtain ⟨h_29, h_22⟩ := h_22
  replace h_29 : r_23 = (oM_ends w_18 w_19 w_8 (X.1 19) ((oM_pours w_7 (X.1 16) (X.1 20) (X.1 21) la mo).1)).1 := h_29
  subst h_29
  replace h_22 : Y_24 = setRow (setRow (setRow (setRow (setRow (setRow (setRow (setRow X 15 w_18) 16 w_19) 17 w_8) 19 (X.1 19)) 20 w_20) 15 ((oM_ends w_18 w_19 w_8 (X.1 19) ((oM_pours w_7 (X.1 16) (X.1 20) (X.1 21) la mo).1)).2.1)) 16 ((oM_ends w_18 w_19 w_8 (X.1 19) ((oM_pours w_7 (X.1 16) (X.1 20) (X.1 21) la mo).1)).2.2.1)) 19 ((oM_ends w_18 w_19 w_8 (X.1 19) ((oM_pours w_7 (X.1 16) (X.1 20) (X.1 21) la mo).1)).2.2.2) := h_22
  obtain ⟨w_30, ew_30⟩ : ∃ Z9, Z9 = (oM_ends w_18 w_19 w_8 (X.1 19) ((oM_pours w_7 (X.1 16) (X.1 20) (X.1 21) la mo).1)).2.1 := ⟨_, rfl⟩
  obtain ⟨w_31, ew_31⟩ : ∃ Z9, Z9 = (oM_ends w_18 w_19 w_8 (X.1 19) ((oM_pours w_7 (X.1 16) (X.1 20) (X.1 21) la mo).1)).2.2.1 := ⟨_, rfl⟩
  obtain ⟨w_32, ew_32⟩ : ∃ Z9, Z9 = (oM_ends w_18 w_19 w_8 (X.1 19) ((oM_pours w_7 (X.1 16) (X.1 20) (X.1 21) la mo).1)).2.2.2 := ⟨_, rfl⟩
  have qqw_30 : Y_24 = setRow (setRow (setRow (setRow (setRow (setRow (setRow (setRow X 15 w_18) 16 w_19) 17 w_8) 19 (X.1 19)) 20 w_20) 15 w_30) 16 w_31) 19 w_32 := by rw [h_22, ew_30, ew_31, ew_32]
  have hW_33 : Wd G (setRow (setRow (setRow (setRow (setRow X 15 w_30) 16 w_31) 17 w_8) 19 w_32) 20 w_20) H_25 := Wd.cast ((((qqw_30).trans (congrArg (fun Z9 => setRow (setRow (Z9) 16 w_31) 19 w_32) (sr_in (by decide) (sr_in (by decide) (sr_in (by decide) (sr_in (by decide) sr_out)))))).trans (congrArg (fun Z9 => setRow (Z9) 19 w_32) (sr_in (by decide) (sr_in (by decide) (sr_in (by decide) sr_out))))).trans (congrArg (fun Z9 => Z9) (sr_in (by decide) sr_out))) hW_27
  exact g_iret C hr hlk hW_33 hS_28 dX8_pour_14 (by subst ew_32; subst ew_31; subst ew_30; subst ew_20; subst ew_19; subst ew_18; subst ew_8; subst ew_7; exact ⟨(by first | rfl | (simp only [oM_pour, if_true, if_false]; first | done | rfl)), (by first | rfl | (simp only [oM_pour, if_true, if_false]; first | done | rfl))⟩)

def oM_breakOut (w15 : Nat → Int32) (w16 : Nat → Int32) (w17 : Nat → Int32) (w19 : Nat → Int32) (mo : Int32) : Int32 × ((Nat → Int32) × ((Nat → Int32) × ((Nat → Int32) × (Nat → Int32)))) := ((oM_ends ((oM_breaks ((oM_begins (w15) (w16) (w17)).1) (w16) mo).2.1) ((oM_breaks ((oM_begins (w15) (w16) (w17)).1) (w16) mo).2.2) ((oM_begins (w15) (w16) (w17)).2) (w19) ((oM_breaks ((oM_begins (w15) (w16) (w17)).1) (w16) mo).1)).1, ((oM_ends ((oM_breaks ((oM_begins (w15) (w16) (w17)).1) (w16) mo).2.1) ((oM_breaks ((oM_begins (w15) (w16) (w17)).1) (w16) mo).2.2) ((oM_begins (w15) (w16) (w17)).2) (w19) ((oM_breaks ((oM_begins (w15) (w16) (w17)).1) (w16) mo).1)).2.1), ((oM_ends ((oM_breaks ((oM_begins (w15) (w16) (w17)).1) (w16) mo).2.1) ((oM_breaks ((oM_begins (w15) (w16) (w17)).1) (w16) mo).2.2) ((oM_begins (w15) (w16) (w17)).2) (w19) ((oM_breaks ((oM_begins (w15) (w16) (w17)).1) (w16) mo).1)).2.2.1), ((oM_begins (w15) (w16) (w17)).2), ((oM_ends ((oM_breaks ((oM_begins (w15) (w16) (w17)).1) (w16) mo).2.1) ((oM_breaks ((oM_begins (w15) (w16) (w17)).1) (w16) mo).2.2) ((oM_begins (w15) (w16) (w17)).2) (w19) ((oM_breaks ((oM_begins (w15) (w16) (w17)).1) (w16) mo).1)).2.2.2))
set_option maxHeartbeats 4000000 in
set_option maxRecDepth 100000 in
theorem cX8_breakOut_ok (l : Launch) (G : GT) (X : St) (mo : Int32) (hm : MInv (X.1 16)) (cg : Nat) (hc : cg ≤ 8) (ec : X.1 15 1 = nI cg) : MetI l G yX8_breakOut (wsG yX8_breakOut cX8_breakOut 2 (some .int)) (rmz 3 67) [.ref (ad G 723), .int mo] X (fun res Y => res = (oM_breakOut (X.1 15) (X.1 16) (X.1 17) (X.1 19) mo).1 ∧ Y = setRow (setRow (setRow (setRow (X) 15 ((oM_breakOut (X.1 15) (X.1 16) (X.1 17) (X.1 19) mo).2.1)) 16 ((oM_breakOut (X.1 15) (X.1 16) (X.1 17) (X.1 19) mo).2.2.1)) 17 ((oM_breakOut (X.1 15) (X.1 16) (X.1 17) (X.1 19) mo).2.2.2.1)) 19 ((oM_breakOut (X.1 15) (X.1 16) (X.1 17) (X.1 19) mo).2.2.2.2)) := by
  refine g_met (cc := cX8_breakOut) (maxL := 2) (ret := (some .int)) (by decide) rfl (Nat.le_of_ble_eq_true rfl) ?_
  intro p e s m below meth c ls C hr hlk hnm hW hl
  have hx := C.1.1
  have hb := C.1.2.1
  have hS : va_S (Ab G) s.heap s.heap [] := va_S.rf
  have hl : lv_has ls 2 [(0, .ref (ad G 723)), (1, .int mo)] := hl
  have hW : Wd G (setRow (setRow (setRow (setRow (X) 15 (X.1 15)) 16 (X.1 16)) 17 (X.1 17)) 19 (X.1 19)) s.heap := Wd.cast (((((sr_same (X := setRow (setRow (setRow (X) 15 (X.1 15)) 16 (X.1 16)) 17 (X.1 17)) (r := 19) rfl).trans (sr_same (X := setRow (setRow (X) 15 (X.1 15)) 16 (X.1 16)) (r := 17) rfl)).trans (sr_same (X := setRow (X) 15 (X.1 15)) (r := 16) rfl)).trans (sr_same (X := X) (r := 15) rfl))).symm hW
  refine lv_aload_n hx hb dX8_breakOut_0 rfl (lv_at hl 0 rfl) ?_
  refine g_callv (va_runV (As := []) (rest := []) C.1 (cX8_begins_ok l G (setRow (setRow (setRow (setRow X 15 (X.1 15)) 16 (X.1 16)) 17 (X.1 17)) 19 (X.1 19))) (cwV 0 C.1.2.2.2.2 (gV qw_1551 qw_1553 qw_29 qw_81 qw_1554) rfl rfl rfl (by decide +kernel) ⟨Nat.le_of_ble_eq_true rfl, Nat.le_of_ble_eq_true rfl⟩) (g_rModel C hW hS []) rfl rfl hl.1 rfl (lv_room (Nat.le_of_ble_eq_true rfl)) dX8_breakOut_1 ⟨Nat.zero_le _, Nat.zero_le _⟩) hS (fun Y_2 H_3 locs_4 hW_5 hS_6 h_1 => ?_)
  replace h_1 : Y_2 = setRow (setRow (setRow (setRow (setRow (setRow X 15 (X.1 15)) 16 (X.1 16)) 17 (X.1 17)) 19 (X.1 19)) 15 ((oM_begins (X.1 15) (X.1 16) (X.1 17)).1)) 17 ((oM_begins (X.1 15) (X.1 16) (X.1 17)).2) := h_1
  obtain ⟨w_7, ew_7⟩ : ∃ Z9, Z9 = (oM_begins (X.1 15) (X.1 16) (X.1 17)).1 := ⟨_, rfl⟩
  obtain ⟨w_8, ew_8⟩ : ∃ Z9, Z9 = (oM_begins (X.1 15) (X.1 16) (X.1 17)).2 := ⟨_, rfl⟩
  have qqw_7 : Y_2 = setRow (setRow (setRow (setRow (setRow (setRow X 15 (X.1 15)) 16 (X.1 16)) 17 (X.1 17)) 19 (X.1 19)) 15 w_7) 17 w_8 := by rw [h_1, ew_7, ew_8]
  have hW_9 : Wd G (setRow (setRow (setRow (setRow X 15 w_7) 16 (X.1 16)) 17 w_8) 19 (X.1 19)) H_3 := Wd.cast (((qqw_7).trans (congrArg (fun Z9 => setRow (Z9) 17 w_8) (sr_in (by decide) (sr_in (by decide) (sr_in (by decide) sr_out))))).trans (congrArg (fun Z9 => Z9) (sr_in (by decide) sr_out))) hW_5
  refine lv_aload_n hx hb dX8_breakOut_4 rfl (lv_at hl 0 rfl) ?_
  refine lv_aload_n hx hb dX8_breakOut_5 rfl (lv_at hl 0 rfl) ?_
  refine lv_iload_n hx hb dX8_breakOut_6 rfl (lv_at hl 1 rfl) ?_
  refine g_calli (va_runV (As := [.int mo]) (rest := [.ref (ad G 723)]) C.1 (cX8_breaks_ok l G (setRow (setRow (setRow (setRow X 15 w_7) 16 (X.1 16)) 17 w_8) 19 (X.1 19)) mo hm) (cwV 1 C.1.2.2.2.2 (gV qw_1674 qw_1676 qw_49 qw_81 qw_1677) rfl rfl rfl (by decide +kernel) ⟨Nat.le_of_ble_eq_true rfl, Nat.le_of_ble_eq_true rfl⟩) (g_rModel C hW_9 hS_6 [.int mo]) rfl rfl hl.1 rfl (lv_room (Nat.le_of_ble_eq_true rfl)) dX8_breakOut_7 ⟨Nat.zero_le _, Nat.zero_le _⟩) hS_6 (fun r_11 Y_12 H_13 locs_14 hW_15 hS_16 h_10 => ?_)
  obtain ⟨h_17, h_10⟩ := h_10
  replace h_17 : r_11 = (oM_breaks w_7 (X.1 16) mo).1 := h_17
  subst h_17
  replace h_10 : Y_12 = setRow (setRow (setRow (setRow (setRow (setRow X 15 w_7) 16 (X.1 16)) 17 w_8) 19 (X.1 19)) 15 ((oM_breaks w_7 (X.1 16) mo).2.1)) 16 ((oM_breaks w_7 (X.1 16) mo).2.2) := h_10
  obtain ⟨w_18, ew_18⟩ : ∃ Z9, Z9 = (oM_breaks w_7 (X.1 16) mo).2.1 := ⟨_, rfl⟩
  obtain ⟨w_19, ew_19⟩ : ∃ Z9, Z9 = (oM_breaks w_7 (X.1 16) mo).2.2 := ⟨_, rfl⟩
  have qqw_18 : Y_12 = setRow (setRow (setRow (setRow (setRow (setRow X 15 w_7) 16 (X.1 16)) 17 w_8) 19 (X.1 19)) 15 w_18) 16 w_19 := by rw [h_10, ew_18, ew_19]
  have hW_20 : Wd G (setRow (setRow (setRow (setRow X 15 w_18) 16 w_19) 17 w_8) 19 (X.1 19)) H_13 := Wd.cast (((qqw_18).trans (congrArg (fun Z9 => setRow (Z9) 16 w_19) (sr_in (by decide) (sr_in (by decide) (sr_in (by decide) sr_out))))).trans (congrArg (fun Z9 => Z9) (sr_in (by decide) (sr_in (by decide) sr_out)))) hW_15
  refine g_calli (va_runV (As := [.int ((oM_breaks w_7 (X.1 16) mo).1)]) (rest := []) C.1 (cX8_ends_ok l G (setRow (setRow (setRow (setRow X 15 w_18) 16 w_19) 17 w_8) 19 (X.1 19)) ((oM_breaks w_7 (X.1 16) mo).1) cg hc (by show w_18 1 = nI cg; rw [ew_18, kc_breaks (by decide), ew_7]; exact ec)) (cwV 1 C.1.2.2.2.2 (gV qw_1591 qw_1593 qw_36 qw_81 qw_1594) rfl rfl rfl (by decide +kernel) ⟨Nat.le_of_ble_eq_true rfl, Nat.le_of_ble_eq_true rfl⟩) (g_rModel C hW_20 hS_16 [.int ((oM_breaks w_7 (X.1 16) mo).1)]) rfl rfl hl.1 rfl (lv_room (Nat.le_of_ble_eq_true rfl)) dX8_breakOut_10 ⟨Nat.zero_le _, Nat.zero_le _⟩) hS_16 (fun r_22 Y_23 H_24 locs_25 hW_26 hS_27 h_21 => ?_)
  obtain ⟨h_28, h_21⟩ := h_21
  replace h_28 : r_22 = (oM_ends w_18 w_19 w_8 (X.1 19) ((oM_breaks w_7 (X.1 16) mo).1)).1 := h_28
  subst h_28
  replace h_21 : Y_23 = setRow (setRow (setRow (setRow (setRow (setRow (setRow X 15 w_18) 16 w_19) 17 w_8) 19 (X.1 19)) 15 ((oM_ends w_18 w_19 w_8 (X.1 19) ((oM_breaks w_7 (X.1 16) mo).1)).2.1)) 16 ((oM_ends w_18 w_19 w_8 (X.1 19) ((oM_breaks w_7 (X.1 16) mo).1)).2.2.1)) 19 ((oM_ends w_18 w_19 w_8 (X.1 19) ((oM_breaks w_7 (X.1 16) mo).1)).2.2.2) := h_21
  obtain ⟨w_29, ew_29⟩ : ∃ Z9, Z9 = (oM_ends w_18 w_19 w_8 (X.1 19) ((oM_breaks w_7 (X.1 16) mo).1)).2.1 := ⟨_, rfl⟩
  obtain ⟨w_30, ew_30⟩ : ∃ Z9, Z9 = (oM_ends w_18 w_19 w_8 (X.1 19) ((oM_breaks w_7 (X.1 16) mo).1)).2.2.1 := ⟨_, rfl⟩
  obtain ⟨w_31, ew_31⟩ : ∃ Z9, Z9 = (oM_ends w_18 w_19 w_8 (X.1 19) ((oM_breaks w_7 (X.1 16) mo).1)).2.2.2 := ⟨_, rfl⟩
  have qqw_29 : Y_23 = setRow (setRow (setRow (setRow (setRow (setRow (setRow X 15 w_18) 16 w_19) 17 w_8) 19 (X.1 19)) 15 w_29) 16 w_30) 19 w_31 := by rw [h_21, ew_29, ew_30, ew_31]
  have hW_32 : Wd G (setRow (setRow (setRow (setRow X 15 w_29) 16 w_30) 17 w_8) 19 w_31) H_24 := Wd.cast ((((qqw_29).trans (congrArg (fun Z9 => setRow (setRow (Z9) 16 w_30) 19 w_31) (sr_in (by decide) (sr_in (by decide) (sr_in (by decide) sr_out))))).trans (congrArg (fun Z9 => setRow (Z9) 19 w_31) (sr_in (by decide) (sr_in (by decide) sr_out)))).trans (congrArg (fun Z9 => Z9) sr_out)) hW_26
  exact g_iret C hr hlk hW_32 hS_27 dX8_breakOut_13 (by subst ew_31; subst ew_30; subst ew_29; subst ew_19; subst ew_18; subst ew_8; subst ew_7; exact ⟨(by first | rfl | (simp only [oM_breakOut, if_true, if_false]; first | done | rfl)), (by first | rfl | (simp only [oM_breakOut, if_true, if_false]; first | done | rfl))⟩)

def oM_meltDown (w15 : Nat → Int32) (w16 : Nat → Int32) (w17 : Nat → Int32) (w19 : Nat → Int32) (w20 : Nat → Int32) (i : Int32) (f : Int32) : Int32 × ((Nat → Int32) × ((Nat → Int32) × ((Nat → Int32) × ((Nat → Int32) × (Nat → Int32))))) := ((oM_ends ((oM_melts ((oM_begins (w15) (w16) (w17)).1) (w16) (w20) i f).2.1) ((oM_melts ((oM_begins (w15) (w16) (w17)).1) (w16) (w20) i f).2.2.1) ((oM_begins (w15) (w16) (w17)).2) (w19) ((oM_melts ((oM_begins (w15) (w16) (w17)).1) (w16) (w20) i f).1)).1, ((oM_ends ((oM_melts ((oM_begins (w15) (w16) (w17)).1) (w16) (w20) i f).2.1) ((oM_melts ((oM_begins (w15) (w16) (w17)).1) (w16) (w20) i f).2.2.1) ((oM_begins (w15) (w16) (w17)).2) (w19) ((oM_melts ((oM_begins (w15) (w16) (w17)).1) (w16) (w20) i f).1)).2.1), ((oM_ends ((oM_melts ((oM_begins (w15) (w16) (w17)).1) (w16) (w20) i f).2.1) ((oM_melts ((oM_begins (w15) (w16) (w17)).1) (w16) (w20) i f).2.2.1) ((oM_begins (w15) (w16) (w17)).2) (w19) ((oM_melts ((oM_begins (w15) (w16) (w17)).1) (w16) (w20) i f).1)).2.2.1), ((oM_begins (w15) (w16) (w17)).2), ((oM_ends ((oM_melts ((oM_begins (w15) (w16) (w17)).1) (w16) (w20) i f).2.1) ((oM_melts ((oM_begins (w15) (w16) (w17)).1) (w16) (w20) i f).2.2.1) ((oM_begins (w15) (w16) (w17)).2) (w19) ((oM_melts ((oM_begins (w15) (w16) (w17)).1) (w16) (w20) i f).1)).2.2.2), ((oM_melts ((oM_begins (w15) (w16) (w17)).1) (w16) (w20) i f).2.2.2))
set_option maxHeartbeats 4000000 in
set_option maxRecDepth 100000 in
theorem cX8_meltDown_ok (l : Launch) (G : GT) (X : St) (i : Int32) (f : Int32) (hm : MInv (X.1 16)) (cg : Nat) (hc : cg ≤ 8) (ec : X.1 15 1 = nI cg) : MetI l G yX8_meltDown (wsG yX8_meltDown cX8_meltDown 3 (some .int)) (rmz 3 70) [.ref (ad G 723), .int i, .int f] X (fun res Y => res = (oM_meltDown (X.1 15) (X.1 16) (X.1 17) (X.1 19) (X.1 20) i f).1 ∧ Y = setRow (setRow (setRow (setRow (setRow (X) 15 ((oM_meltDown (X.1 15) (X.1 16) (X.1 17) (X.1 19) (X.1 20) i f).2.1)) 16 ((oM_meltDown (X.1 15) (X.1 16) (X.1 17) (X.1 19) (X.1 20) i f).2.2.1)) 17 ((oM_meltDown (X.1 15) (X.1 16) (X.1 17) (X.1 19) (X.1 20) i f).2.2.2.1)) 19 ((oM_meltDown (X.1 15) (X.1 16) (X.1 17) (X.1 19) (X.1 20) i f).2.2.2.2.1)) 20 ((oM_meltDown (X.1 15) (X.1 16) (X.1 17) (X.1 19) (X.1 20) i f).2.2.2.2.2)) := by
  refine g_met (cc := cX8_meltDown) (maxL := 3) (ret := (some .int)) (by decide) rfl (Nat.le_of_ble_eq_true rfl) ?_
  intro p e s m below meth c ls C hr hlk hnm hW hl
  have hx := C.1.1
  have hb := C.1.2.1
  have hS : va_S (Ab G) s.heap s.heap [] := va_S.rf
  have hl : lv_has ls 3 [(0, .ref (ad G 723)), (1, .int i), (2, .int f)] := hl
  have hW : Wd G (setRow (setRow (setRow (setRow (setRow (X) 15 (X.1 15)) 16 (X.1 16)) 17 (X.1 17)) 19 (X.1 19)) 20 (X.1 20)) s.heap := Wd.cast ((((((sr_same (X := setRow (setRow (setRow (setRow (X) 15 (X.1 15)) 16 (X.1 16)) 17 (X.1 17)) 19 (X.1 19)) (r := 20) rfl).trans (sr_same (X := setRow (setRow (setRow (X) 15 (X.1 15)) 16 (X.1 16)) 17 (X.1 17)) (r := 19) rfl)).trans (sr_same (X := setRow (setRow (X) 15 (X.1 15)) 16 (X.1 16)) (r := 17) rfl)).trans (sr_same (X := setRow (X) 15 (X.1 15)) (r := 16) rfl)).trans (sr_same (X := X) (r := 15) rfl))).symm hW
  refine lv_aload_n hx hb dX8_meltDown_0 rfl (lv_at hl 0 rfl) ?_
  refine g_callv (va_runV (As := []) (rest := []) C.1 (cX8_begins_ok l G (setRow (setRow (setRow (setRow (setRow X 15 (X.1 15)) 16 (X.1 16)) 17 (X.1 17)) 19 (X.1 19)) 20 (X.1 20))) (cwV 0 C.1.2.2.2.2 (gV qw_1551 qw_1553 qw_29 qw_81 qw_1554) rfl rfl rfl (by decide +kernel) ⟨Nat.le_of_ble_eq_true rfl, Nat.le_of_ble_eq_true rfl⟩) (g_rModel C hW hS []) rfl rfl hl.1 rfl (lv_room (Nat.le_of_ble_eq_true rfl)) dX8_meltDown_1 ⟨Nat.zero_le _, Nat.zero_le _⟩) hS (fun Y_2 H_3 locs_4 hW_5 hS_6 h_1 => ?_)
  replace h_1 : Y_2 = setRow (setRow (setRow (setRow (setRow (setRow (setRow X 15 (X.1 15)) 16 (X.1 16)) 17 (X.1 17)) 19 (X.1 19)) 20 (X.1 20)) 15 ((oM_begins (X.1 15) (X.1 16) (X.1 17)).1)) 17 ((oM_begins (X.1 15) (X.1 16) (X.1 17)).2) := h_1
  obtain ⟨w_7, ew_7⟩ : ∃ Z9, Z9 = (oM_begins (X.1 15) (X.1 16) (X.1 17)).1 := ⟨_, rfl⟩
  obtain ⟨w_8, ew_8⟩ : ∃ Z9, Z9 = (oM_begins (X.1 15) (X.1 16) (X.1 17)).2 := ⟨_, rfl⟩
  have qqw_7 : Y_2 = setRow (setRow (setRow (setRow (setRow (setRow (setRow X 15 (X.1 15)) 16 (X.1 16)) 17 (X.1 17)) 19 (X.1 19)) 20 (X.1 20)) 15 w_7) 17 w_8 := by rw [h_1, ew_7, ew_8]
  have hW_9 : Wd G (setRow (setRow (setRow (setRow (setRow X 15 w_7) 16 (X.1 16)) 17 w_8) 19 (X.1 19)) 20 (X.1 20)) H_3 := Wd.cast (((qqw_7).trans (congrArg (fun Z9 => setRow (Z9) 17 w_8) (sr_in (by decide) (sr_in (by decide) (sr_in (by decide) (sr_in (by decide) sr_out)))))).trans (congrArg (fun Z9 => Z9) (sr_in (by decide) (sr_in (by decide) sr_out)))) hW_5
  refine lv_aload_n hx hb dX8_meltDown_4 rfl (lv_at hl 0 rfl) ?_
  refine lv_aload_n hx hb dX8_meltDown_5 rfl (lv_at hl 0 rfl) ?_
  refine lv_iload_n hx hb dX8_meltDown_6 rfl (lv_at hl 1 rfl) ?_
  refine lv_iload_n hx hb dX8_meltDown_7 rfl (lv_at hl 2 rfl) ?_
  refine g_calli (va_runV (As := [.int i, .int f]) (rest := [.ref (ad G 723)]) C.1 (cX8_melts_ok l G (setRow (setRow (setRow (setRow (setRow X 15 w_7) 16 (X.1 16)) 17 w_8) 19 (X.1 19)) 20 (X.1 20)) i f hm) (cwV 2 C.1.2.2.2.2 (gV qw_1685 qw_1687 qw_50 qw_81 qw_1688) rfl rfl rfl (by decide +kernel) ⟨Nat.le_of_ble_eq_true rfl, Nat.le_of_ble_eq_true rfl⟩) (g_rModel C hW_9 hS_6 [.int i, .int f]) rfl rfl hl.1 rfl (lv_room (Nat.le_of_ble_eq_true rfl)) dX8_meltDown_8 ⟨Nat.zero_le _, Nat.zero_le _⟩) hS_6 (fun r_11 Y_12 H_13 locs_14 hW_15 hS_16 h_10 => ?_)
  obtain ⟨h_17, h_10⟩ := h_10
  replace h_17 : r_11 = (oM_melts w_7 (X.1 16) (X.1 20) i f).1 := h_17
  subst h_17
  replace h_10 : Y_12 = setRow (setRow (setRow (setRow (setRow (setRow (setRow (setRow X 15 w_7) 16 (X.1 16)) 17 w_8) 19 (X.1 19)) 20 (X.1 20)) 15 ((oM_melts w_7 (X.1 16) (X.1 20) i f).2.1)) 16 ((oM_melts w_7 (X.1 16) (X.1 20) i f).2.2.1)) 20 ((oM_melts w_7 (X.1 16) (X.1 20) i f).2.2.2) := h_10
  obtain ⟨w_18, ew_18⟩ : ∃ Z9, Z9 = (oM_melts w_7 (X.1 16) (X.1 20) i f).2.1 := ⟨_, rfl⟩
  obtain ⟨w_19, ew_19⟩ : ∃ Z9, Z9 = (oM_melts w_7 (X.1 16) (X.1 20) i f).2.2.1 := ⟨_, rfl⟩
  obtain ⟨w_20, ew_20⟩ : ∃ Z9, Z9 = (oM_melts w_7 (X.1 16) (X.1 20) i f).2.2.2 := ⟨_, rfl⟩
  have qqw_18 : Y_12 = setRow (setRow (setRow (setRow (setRow (setRow (setRow (setRow X 15 w_7) 16 (X.1 16)) 17 w_8) 19 (X.1 19)) 20 (X.1 20)) 15 w_18) 16 w_19) 20 w_20 := by rw [h_10, ew_18, ew_19, ew_20]
  have hW_21 : Wd G (setRow (setRow (setRow (setRow (setRow X 15 w_18) 16 w_19) 17 w_8) 19 (X.1 19)) 20 w_20) H_13 := Wd.cast ((((qqw_18).trans (congrArg (fun Z9 => setRow (setRow (Z9) 16 w_19) 20 w_20) (sr_in (by decide) (sr_in (by decide) (sr_in (by decide) (sr_in (by decide) sr_out)))))).trans (congrArg (fun Z9 => setRow (Z9) 20 w_20) (sr_in (by decide) (sr_in (by decide) (sr_in (by decide) sr_out))))).trans (congrArg (fun Z9 => Z9) sr_out)) hW_15
  refine g_calli (va_runV (As := [.int ((oM_melts w_7 (X.1 16) (X.1 20) i f).1)]) (rest := []) C.1 (cX8_ends_ok l G (setRow (setRow (setRow (setRow (setRow X 15 w_18) 16 w_19) 17 w_8) 19 (X.1 19)) 20 w_20) ((oM_melts w_7 (X.1 16) (X.1 20) i f).1) cg hc (by show w_18 1 = nI cg; rw [ew_18, kc_melts (by decide), ew_7]; exact ec)) (cwV 1 C.1.2.2.2.2 (gV qw_1591 qw_1593 qw_36 qw_81 qw_1594) rfl rfl rfl (by decide +kernel) ⟨Nat.le_of_ble_eq_true rfl, Nat.le_of_ble_eq_true rfl⟩) (g_rModel C hW_21 hS_16 [.int ((oM_melts w_7 (X.1 16) (X.1 20) i f).1)]) rfl rfl hl.1 rfl (lv_room (Nat.le_of_ble_eq_true rfl)) dX8_meltDown_11 ⟨Nat.zero_le _, Nat.zero_le _⟩) hS_16 (fun r_23 Y_24 H_25 locs_26 hW_27 hS_28 h_22 => ?_)
  obtain ⟨h_29, h_22⟩ := h_22
  replace h_29 : r_23 = (oM_ends w_18 w_19 w_8 (X.1 19) ((oM_melts w_7 (X.1 16) (X.1 20) i f).1)).1 := h_29
  subst h_29
  replace h_22 : Y_24 = setRow (setRow (setRow (setRow (setRow (setRow (setRow (setRow X 15 w_18) 16 w_19) 17 w_8) 19 (X.1 19)) 20 w_20) 15 ((oM_ends w_18 w_19 w_8 (X.1 19) ((oM_melts w_7 (X.1 16) (X.1 20) i f).1)).2.1)) 16 ((oM_ends w_18 w_19 w_8 (X.1 19) ((oM_melts w_7 (X.1 16) (X.1 20) i f).1)).2.2.1)) 19 ((oM_ends w_18 w_19 w_8 (X.1 19) ((oM_melts w_7 (X.1 16) (X.1 20) i f).1)).2.2.2) := h_22
  obtain ⟨w_30, ew_30⟩ : ∃ Z9, Z9 = (oM_ends w_18 w_19 w_8 (X.1 19) ((oM_melts w_7 (X.1 16) (X.1 20) i f).1)).2.1 := ⟨_, rfl⟩
  obtain ⟨w_31, ew_31⟩ : ∃ Z9, Z9 = (oM_ends w_18 w_19 w_8 (X.1 19) ((oM_melts w_7 (X.1 16) (X.1 20) i f).1)).2.2.1 := ⟨_, rfl⟩
  obtain ⟨w_32, ew_32⟩ : ∃ Z9, Z9 = (oM_ends w_18 w_19 w_8 (X.1 19) ((oM_melts w_7 (X.1 16) (X.1 20) i f).1)).2.2.2 := ⟨_, rfl⟩
  have qqw_30 : Y_24 = setRow (setRow (setRow (setRow (setRow (setRow (setRow (setRow X 15 w_18) 16 w_19) 17 w_8) 19 (X.1 19)) 20 w_20) 15 w_30) 16 w_31) 19 w_32 := by rw [h_22, ew_30, ew_31, ew_32]
  have hW_33 : Wd G (setRow (setRow (setRow (setRow (setRow X 15 w_30) 16 w_31) 17 w_8) 19 w_32) 20 w_20) H_25 := Wd.cast ((((qqw_30).trans (congrArg (fun Z9 => setRow (setRow (Z9) 16 w_31) 19 w_32) (sr_in (by decide) (sr_in (by decide) (sr_in (by decide) (sr_in (by decide) sr_out)))))).trans (congrArg (fun Z9 => setRow (Z9) 19 w_32) (sr_in (by decide) (sr_in (by decide) (sr_in (by decide) sr_out))))).trans (congrArg (fun Z9 => Z9) (sr_in (by decide) sr_out))) hW_27
  exact g_iret C hr hlk hW_33 hS_28 dX8_meltDown_14 (by subst ew_32; subst ew_31; subst ew_30; subst ew_20; subst ew_19; subst ew_18; subst ew_8; subst ew_7; exact ⟨(by first | rfl | (simp only [oM_meltDown, if_true, if_false]; first | done | rfl)), (by first | rfl | (simp only [oM_meltDown, if_true, if_false]; first | done | rfl))⟩)

def oM_advance (w15 : Nat → Int32) (w16 : Nat → Int32) (w17 : Nat → Int32) (w19 : Nat → Int32) (w21 : Nat → Int32) (mn : Int32) : Int32 × ((Nat → Int32) × ((Nat → Int32) × ((Nat → Int32) × (Nat → Int32)))) := ((oM_ends ((oM_passes ((oM_begins (w15) (w16) (w17)).1) (w16) (w21) mn).2.1) ((oM_passes ((oM_begins (w15) (w16) (w17)).1) (w16) (w21) mn).2.2) ((oM_begins (w15) (w16) (w17)).2) (w19) ((oM_passes ((oM_begins (w15) (w16) (w17)).1) (w16) (w21) mn).1)).1, ((oM_ends ((oM_passes ((oM_begins (w15) (w16) (w17)).1) (w16) (w21) mn).2.1) ((oM_passes ((oM_begins (w15) (w16) (w17)).1) (w16) (w21) mn).2.2) ((oM_begins (w15) (w16) (w17)).2) (w19) ((oM_passes ((oM_begins (w15) (w16) (w17)).1) (w16) (w21) mn).1)).2.1), ((oM_ends ((oM_passes ((oM_begins (w15) (w16) (w17)).1) (w16) (w21) mn).2.1) ((oM_passes ((oM_begins (w15) (w16) (w17)).1) (w16) (w21) mn).2.2) ((oM_begins (w15) (w16) (w17)).2) (w19) ((oM_passes ((oM_begins (w15) (w16) (w17)).1) (w16) (w21) mn).1)).2.2.1), ((oM_begins (w15) (w16) (w17)).2), ((oM_ends ((oM_passes ((oM_begins (w15) (w16) (w17)).1) (w16) (w21) mn).2.1) ((oM_passes ((oM_begins (w15) (w16) (w17)).1) (w16) (w21) mn).2.2) ((oM_begins (w15) (w16) (w17)).2) (w19) ((oM_passes ((oM_begins (w15) (w16) (w17)).1) (w16) (w21) mn).1)).2.2.2))
set_option maxHeartbeats 4000000 in
set_option maxRecDepth 100000 in
theorem cX8_advance_ok (l : Launch) (G : GT) (X : St) (mn : Int32) (hm : MInv (X.1 16)) (cg : Nat) (hc : cg ≤ 8) (ec : X.1 15 1 = nI cg) : MetI l G yX8_advance (wsG yX8_advance cX8_advance 2 (some .int)) (rmz 4 88) [.ref (ad G 723), .int mn] X (fun res Y => res = (oM_advance (X.1 15) (X.1 16) (X.1 17) (X.1 19) (X.1 21) mn).1 ∧ Y = setRow (setRow (setRow (setRow (X) 15 ((oM_advance (X.1 15) (X.1 16) (X.1 17) (X.1 19) (X.1 21) mn).2.1)) 16 ((oM_advance (X.1 15) (X.1 16) (X.1 17) (X.1 19) (X.1 21) mn).2.2.1)) 17 ((oM_advance (X.1 15) (X.1 16) (X.1 17) (X.1 19) (X.1 21) mn).2.2.2.1)) 19 ((oM_advance (X.1 15) (X.1 16) (X.1 17) (X.1 19) (X.1 21) mn).2.2.2.2)) := by
  refine g_met (cc := cX8_advance) (maxL := 2) (ret := (some .int)) (by decide) rfl (Nat.le_of_ble_eq_true rfl) ?_
  intro p e s m below meth c ls C hr hlk hnm hW hl
  have hx := C.1.1
  have hb := C.1.2.1
  have hS : va_S (Ab G) s.heap s.heap [] := va_S.rf
  have hl : lv_has ls 2 [(0, .ref (ad G 723)), (1, .int mn)] := hl
  have hW : Wd G (setRow (setRow (setRow (setRow (X) 15 (X.1 15)) 16 (X.1 16)) 17 (X.1 17)) 19 (X.1 19)) s.heap := Wd.cast (((((sr_same (X := setRow (setRow (setRow (X) 15 (X.1 15)) 16 (X.1 16)) 17 (X.1 17)) (r := 19) rfl).trans (sr_same (X := setRow (setRow (X) 15 (X.1 15)) 16 (X.1 16)) (r := 17) rfl)).trans (sr_same (X := setRow (X) 15 (X.1 15)) (r := 16) rfl)).trans (sr_same (X := X) (r := 15) rfl))).symm hW
  refine lv_aload_n hx hb dX8_advance_0 rfl (lv_at hl 0 rfl) ?_
  refine g_callv (va_runV (As := []) (rest := []) C.1 (cX8_begins_ok l G (setRow (setRow (setRow (setRow X 15 (X.1 15)) 16 (X.1 16)) 17 (X.1 17)) 19 (X.1 19))) (cwV 0 C.1.2.2.2.2 (gV qw_1551 qw_1553 qw_29 qw_81 qw_1554) rfl rfl rfl (by decide +kernel) ⟨Nat.le_of_ble_eq_true rfl, Nat.le_of_ble_eq_true rfl⟩) (g_rModel C hW hS []) rfl rfl hl.1 rfl (lv_room (Nat.le_of_ble_eq_true rfl)) dX8_advance_1 ⟨Nat.zero_le _, Nat.zero_le _⟩) hS (fun Y_2 H_3 locs_4 hW_5 hS_6 h_1 => ?_)
  replace h_1 : Y_2 = setRow (setRow (setRow (setRow (setRow (setRow X 15 (X.1 15)) 16 (X.1 16)) 17 (X.1 17)) 19 (X.1 19)) 15 ((oM_begins (X.1 15) (X.1 16) (X.1 17)).1)) 17 ((oM_begins (X.1 15) (X.1 16) (X.1 17)).2) := h_1
  obtain ⟨w_7, ew_7⟩ : ∃ Z9, Z9 = (oM_begins (X.1 15) (X.1 16) (X.1 17)).1 := ⟨_, rfl⟩
  obtain ⟨w_8, ew_8⟩ : ∃ Z9, Z9 = (oM_begins (X.1 15) (X.1 16) (X.1 17)).2 := ⟨_, rfl⟩
  have qqw_7 : Y_2 = setRow (setRow (setRow (setRow (setRow (setRow X 15 (X.1 15)) 16 (X.1 16)) 17 (X.1 17)) 19 (X.1 19)) 15 w_7) 17 w_8 := by rw [h_1, ew_7, ew_8]
  have hW_9 : Wd G (setRow (setRow (setRow (setRow X 15 w_7) 16 (X.1 16)) 17 w_8) 19 (X.1 19)) H_3 := Wd.cast (((qqw_7).trans (congrArg (fun Z9 => setRow (Z9) 17 w_8) (sr_in (by decide) (sr_in (by decide) (sr_in (by decide) sr_out))))).trans (congrArg (fun Z9 => Z9) (sr_in (by decide) sr_out))) hW_5
  refine lv_aload_n hx hb dX8_advance_4 rfl (lv_at hl 0 rfl) ?_
  refine lv_aload_n hx hb dX8_advance_5 rfl (lv_at hl 0 rfl) ?_
  refine lv_iload_n hx hb dX8_advance_6 rfl (lv_at hl 1 rfl) ?_
  refine g_calli (va_runV (As := [.int mn]) (rest := [.ref (ad G 723)]) C.1 (cX8_passes_ok l G (setRow (setRow (setRow (setRow X 15 w_7) 16 (X.1 16)) 17 w_8) 19 (X.1 19)) mn hm) (cwV 1 C.1.2.2.2.2 (gV qw_1697 qw_1699 qw_52 qw_81 qw_1700) rfl rfl rfl (by decide +kernel) ⟨Nat.le_of_ble_eq_true rfl, Nat.le_of_ble_eq_true rfl⟩) (g_rModel C hW_9 hS_6 [.int mn]) rfl rfl hl.1 rfl (lv_room (Nat.le_of_ble_eq_true rfl)) dX8_advance_7 ⟨Nat.zero_le _, Nat.zero_le _⟩) hS_6 (fun r_11 Y_12 H_13 locs_14 hW_15 hS_16 h_10 => ?_)
  obtain ⟨h_17, h_10⟩ := h_10
  replace h_17 : r_11 = (oM_passes w_7 (X.1 16) (X.1 21) mn).1 := h_17
  subst h_17
  replace h_10 : Y_12 = setRow (setRow (setRow (setRow (setRow (setRow X 15 w_7) 16 (X.1 16)) 17 w_8) 19 (X.1 19)) 15 ((oM_passes w_7 (X.1 16) (X.1 21) mn).2.1)) 16 ((oM_passes w_7 (X.1 16) (X.1 21) mn).2.2) := h_10
  obtain ⟨w_18, ew_18⟩ : ∃ Z9, Z9 = (oM_passes w_7 (X.1 16) (X.1 21) mn).2.1 := ⟨_, rfl⟩
  obtain ⟨w_19, ew_19⟩ : ∃ Z9, Z9 = (oM_passes w_7 (X.1 16) (X.1 21) mn).2.2 := ⟨_, rfl⟩
  have qqw_18 : Y_12 = setRow (setRow (setRow (setRow (setRow (setRow X 15 w_7) 16 (X.1 16)) 17 w_8) 19 (X.1 19)) 15 w_18) 16 w_19 := by rw [h_10, ew_18, ew_19]
  have hW_20 : Wd G (setRow (setRow (setRow (setRow X 15 w_18) 16 w_19) 17 w_8) 19 (X.1 19)) H_13 := Wd.cast (((qqw_18).trans (congrArg (fun Z9 => setRow (Z9) 16 w_19) (sr_in (by decide) (sr_in (by decide) (sr_in (by decide) sr_out))))).trans (congrArg (fun Z9 => Z9) (sr_in (by decide) (sr_in (by decide) sr_out)))) hW_15
  refine g_calli (va_runV (As := [.int ((oM_passes w_7 (X.1 16) (X.1 21) mn).1)]) (rest := []) C.1 (cX8_ends_ok l G (setRow (setRow (setRow (setRow X 15 w_18) 16 w_19) 17 w_8) 19 (X.1 19)) ((oM_passes w_7 (X.1 16) (X.1 21) mn).1) cg hc (by show w_18 1 = nI cg; rw [ew_18, kc_passes (by decide), ew_7]; exact ec)) (cwV 1 C.1.2.2.2.2 (gV qw_1591 qw_1593 qw_36 qw_81 qw_1594) rfl rfl rfl (by decide +kernel) ⟨Nat.le_of_ble_eq_true rfl, Nat.le_of_ble_eq_true rfl⟩) (g_rModel C hW_20 hS_16 [.int ((oM_passes w_7 (X.1 16) (X.1 21) mn).1)]) rfl rfl hl.1 rfl (lv_room (Nat.le_of_ble_eq_true rfl)) dX8_advance_10 ⟨Nat.zero_le _, Nat.zero_le _⟩) hS_16 (fun r_22 Y_23 H_24 locs_25 hW_26 hS_27 h_21 => ?_)
  obtain ⟨h_28, h_21⟩ := h_21
  replace h_28 : r_22 = (oM_ends w_18 w_19 w_8 (X.1 19) ((oM_passes w_7 (X.1 16) (X.1 21) mn).1)).1 := h_28
  subst h_28
  replace h_21 : Y_23 = setRow (setRow (setRow (setRow (setRow (setRow (setRow X 15 w_18) 16 w_19) 17 w_8) 19 (X.1 19)) 15 ((oM_ends w_18 w_19 w_8 (X.1 19) ((oM_passes w_7 (X.1 16) (X.1 21) mn).1)).2.1)) 16 ((oM_ends w_18 w_19 w_8 (X.1 19) ((oM_passes w_7 (X.1 16) (X.1 21) mn).1)).2.2.1)) 19 ((oM_ends w_18 w_19 w_8 (X.1 19) ((oM_passes w_7 (X.1 16) (X.1 21) mn).1)).2.2.2) := h_21
  obtain ⟨w_29, ew_29⟩ : ∃ Z9, Z9 = (oM_ends w_18 w_19 w_8 (X.1 19) ((oM_passes w_7 (X.1 16) (X.1 21) mn).1)).2.1 := ⟨_, rfl⟩
  obtain ⟨w_30, ew_30⟩ : ∃ Z9, Z9 = (oM_ends w_18 w_19 w_8 (X.1 19) ((oM_passes w_7 (X.1 16) (X.1 21) mn).1)).2.2.1 := ⟨_, rfl⟩
  obtain ⟨w_31, ew_31⟩ : ∃ Z9, Z9 = (oM_ends w_18 w_19 w_8 (X.1 19) ((oM_passes w_7 (X.1 16) (X.1 21) mn).1)).2.2.2 := ⟨_, rfl⟩
  have qqw_29 : Y_23 = setRow (setRow (setRow (setRow (setRow (setRow (setRow X 15 w_18) 16 w_19) 17 w_8) 19 (X.1 19)) 15 w_29) 16 w_30) 19 w_31 := by rw [h_21, ew_29, ew_30, ew_31]
  have hW_32 : Wd G (setRow (setRow (setRow (setRow X 15 w_29) 16 w_30) 17 w_8) 19 w_31) H_24 := Wd.cast ((((qqw_29).trans (congrArg (fun Z9 => setRow (setRow (Z9) 16 w_30) 19 w_31) (sr_in (by decide) (sr_in (by decide) (sr_in (by decide) sr_out))))).trans (congrArg (fun Z9 => setRow (Z9) 19 w_31) (sr_in (by decide) (sr_in (by decide) sr_out)))).trans (congrArg (fun Z9 => Z9) sr_out)) hW_26
  exact g_iret C hr hlk hW_32 hS_27 dX8_advance_13 (by subst ew_31; subst ew_30; subst ew_29; subst ew_19; subst ew_18; subst ew_8; subst ew_7; exact ⟨(by first | rfl | (simp only [oM_advance, if_true, if_false]; first | done | rfl)), (by first | rfl | (simp only [oM_advance, if_true, if_false]; first | done | rfl))⟩)
