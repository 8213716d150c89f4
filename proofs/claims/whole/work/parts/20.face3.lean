/-! The script run; the lines rendered. -/
theorem rcR_cmd {t : Nat → Int32} {L k p : Nat} {a b : Nat → Int32} (h : ¬ (rcR t L k p a b).1 = 0) : ∃ c, c < 10 ∧ (rcR t L k p a b).2.2.1 = upd a k (nI (c + 1)) := by
  unfold rcR at h ⊢
  cases h9 : (wordR t L p).1 with
  | none => rw [h9] at h; exact absurd rfl h
  | some i =>
    rw [h9] at h
    dsimp only at h ⊢
    by_cases h2 : (rdP t L k (formL i) 0 (wordR t L p).2 b).1 = 0
    · rw [if_pos h2] at h
      exact absurd rfl h
    · rw [if_neg h2]
      exact ⟨i, wordR_lt h9, rfl⟩
theorem rcR_no {t : Nat → Int32} {L k p : Nat} {a b : Nat → Int32} (h : (rcR t L k p a b).1 = 0) : (rcR t L k p a b).2.2.1 = a := by
  unfold rcR at h ⊢
  cases h9 : (wordR t L p).1 with
  | none => rfl
  | some i =>
    rw [h9] at h
    dsimp only at h ⊢
    by_cases h2 : (rdP t L k (formL i) 0 (wordR t L p).2 b).1 = 0
    · rw [if_pos h2]
    · rw [if_neg h2] at h
      exact absurd (show (1 : Int32) = 0 from h) (by decide)
theorem prL_cnt {t : Nat → Int32} {L : Nat} : ∀ (q k p : Nat) (a b : Nat → Int32), (∀ i, i < k → ∃ c, c < 10 ∧ a i = nI (c + 1)) → ∃ m, m ≤ k + q ∧ (prL t L q k p (nI k) a b).2.2.1 = nI m ∧ ∀ i, i < m → ∃ c, c < 10 ∧ (prL t L q k p (nI k) a b).2.2.2.1 i = nI (c + 1)
  | 0, k, p, a, b, h => ⟨k, Nat.le_refl _, rfl, h⟩
  | q + 1, k, p, a, b, h => by
    by_cases h1 : (rcR t L k p a b).1 = 0
    · refine ⟨k, by omega, ?_⟩
      rw [prL, if_pos h1]
      refine ⟨rfl, fun i hi => ?_⟩
      show ∃ c, c < 10 ∧ (rcR t L k p a b).2.2.1 i = nI (c + 1)
      rw [rcR_no h1]
      exact h i hi
    · obtain ⟨c, hc, ea⟩ := rcR_cmd h1
      have h3 : ∀ i, i < k + 1 → ∃ c, c < 10 ∧ (rcR t L k p a b).2.2.1 i = nI (c + 1) := by
        intro i hi
        rw [ea]
        by_cases hk : i = k
        · subst hk
          exact ⟨c, hc, pk_us⟩
        · rw [pk_un hk]
          exact h i (by omega)
      rw [prL, if_neg h1]
      split
      · split
        · exact ⟨k + 1, by omega, rfl, h3⟩
        · obtain ⟨m, hm, e1, e2⟩ := prL_cnt (t := t) (L := L) q (k + 1) (rsV t L (rcR t L k p a b).2.1 59).1 (rcR t L k p a b).2.2.1 (rcR t L k p a b).2.2.2 h3
          exact ⟨m, by omega, e1, e2⟩
      · exact ⟨k + 1, by omega, rfl, h3⟩
theorem parse_cnt (t : Nat → Int32) (L : Nat) (a b : Nat → Int32) : ∃ m, m ≤ 60 ∧ (parseR t L a b).2.2.1 = nI m ∧ ∀ i, i < m → ∃ c, c < 10 ∧ (parseR t L a b).2.2.2.1 i = nI (c + 1) := by
  obtain ⟨m, hm, e1, e2⟩ := prL_cnt (t := t) (L := L) 60 0 0 a b (fun i hi => absurd hi (Nat.not_lt_zero i))
  exact ⟨m, by omega, e1, e2⟩
theorem grade_nat (w : Nat → Int32) (i : Nat) : ∃ c, c < 128 ∧ gradeW w i = nI c := by
  unfold gradeW
  repeat' split
  all_goals first | exact ⟨120, by decide, rfl⟩ | exact ⟨99, by decide, rfl⟩ | exact ⟨98, by decide, rfl⟩ | exact ⟨115, by decide, rfl⟩
def slU (w : Nat → Int32) (n : Nat) : Nat → Int32 := if nI n ≤ 0 then w else upd w (9) 1
theorem uu10 {w : Nat → Int32} {a b : Int32} : upd (upd w (10) a) (10) b = upd w (10) b := by
  funext j
  by_cases hj : j = 10
  · subst hj
    exact pk_us.trans pk_us.symm
  · rw [pk_un hj, pk_un hj, pk_un hj]
def grL (w : Nat → Int32) : Nat → Nat → (Nat → Int32) → (Nat → Int32)
  | 0, _, b => b
  | q + 1, k, b => grL w q (k + 1) (upd b k (gradeW w (80 + 4 * k)))
theorem qw_390 : Cond.instanceMethod ⟨"java/lang/StringBuilder", "setLength", "(I)V"⟩ ∈ lw_all := lw_mem 390 (by decide +kernel) (by decide +kernel)
theorem qw_391 : Cond.selects "java/lang/StringBuilder" ⟨"java/lang/StringBuilder", "setLength", "(I)V"⟩ ⟨"java/lang/StringBuilder", "setLength", "(I)V"⟩ ∈ lw_all := lw_mem 391 (by decide +kernel) (by decide +kernel)
theorem qw_392 : Cond.code ⟨"java/lang/StringBuilder", "setLength", "(I)V"⟩ prog_29_method_89_code 2 (none : Option FieldType) ∈ lw_all := lw_mem 392 (by decide +kernel) (by decide +kernel)
theorem qw_746 : Cond.instanceMethod ⟨"java/lang/StringBuilder", "append", "(C)Ljava/lang/StringBuilder;"⟩ ∈ lw_all := lw_mem 746 (by decide +kernel) (by decide +kernel)
theorem qw_747 : Cond.selects "java/lang/StringBuilder" ⟨"java/lang/StringBuilder", "append", "(C)Ljava/lang/StringBuilder;"⟩ ⟨"java/lang/StringBuilder", "append", "(C)Ljava/lang/StringBuilder;"⟩ ∈ lw_all := lw_mem 747 (by decide +kernel) (by decide +kernel)
theorem qw_748 : Cond.code ⟨"java/lang/StringBuilder", "append", "(C)Ljava/lang/StringBuilder;"⟩ prog_29_method_14_code 2 (some (FieldType.object "java/lang/StringBuilder")) ∈ lw_all := lw_mem 748 (by decide +kernel) (by decide +kernel)
set_option maxHeartbeats 4000000 in
set_option maxRecDepth 100000 in
theorem cX7_runScript_ok (l : Launch) (G : GT) (hst : l.stackTraces = false) (X : St) (hi : PInv (X.1 0)) (sp : Nat) (hsp : sp < 9) (es : X.1 11 3 = nI sp) (cn : Nat) (hcn : cn ≤ 8) (ec : X.1 11 4 = nI cn) (L : Nat) (hL : L ≤ 60) (eL : X.1 11 5 = nI L) (mm : Nat) (hm : mm ≤ 60) (em : (parseR (X.1 12) L (X.1 13) (X.1 14)).2.2.1 = nI mm) (hcm : ∀ i, i < mm → ∃ c, c < 10 ∧ (parseR (X.1 12) L (X.1 13) (X.1 14)).2.2.2.1 i = nI (c + 1)) : MetXI l G 1 yX7_runScript (wsG yX7_runScript cX7_runScript 3 (some .int)) (rmk 1 42 446) [.ref (ad G 715)] X (fun res Y => ((parseR (X.1 12) L (X.1 13) (X.1 14)).1 = -1 ∧ (psL (parseR (X.1 12) L (X.1 13) (X.1 14)).2.2.2.1 (parseR (X.1 12) L (X.1 13) (X.1 14)).2.2.2.2 mm 0 (X.1 0)).1 = -1 ∧ res = nI mm) ∧ Y = setRow (setRow (setRow (setRow (setRow X 11 (keepR (upd (upd (upd (X.1 11) (6) (nI (parseR (X.1 12) L (X.1 13) (X.1 14)).2.1)) (7) (parseR (X.1 12) L (X.1 13) (X.1 14)).2.2.1) (5) 0) sp cn)) 14 (parseR (X.1 12) L (X.1 13) (X.1 14)).2.2.2.2) 13 (parseR (X.1 12) L (X.1 13) (X.1 14)).2.2.2.1) (sp + 1) (cpPlantR (X.1 (sp + 1)) (X.1 0))) 0 ((psL (parseR (X.1 12) L (X.1 13) (X.1 14)).2.2.2.1 (parseR (X.1 12) L (X.1 13) (X.1 14)).2.2.2.2 mm 0 (X.1 0)).2)) (fun E Y => (E = "java/lang/IllegalArgumentException" ∧ ¬ (parseR (X.1 12) L (X.1 13) (X.1 14)).1 = -1 ∧ Y = setRow (setRow (setRow X 11 (upd (upd (upd (upd (X.1 11) (6) (nI (parseR (X.1 12) L (X.1 13) (X.1 14)).2.1)) (7) (parseR (X.1 12) L (X.1 13) (X.1 14)).2.2.1) (5) 0) (1) (parseR (X.1 12) L (X.1 13) (X.1 14)).1)) 14 (parseR (X.1 12) L (X.1 13) (X.1 14)).2.2.2.2) 13 (parseR (X.1 12) L (X.1 13) (X.1 14)).2.2.2.1) ∨ (E = "java/lang/IllegalStateException" ∧ (parseR (X.1 12) L (X.1 13) (X.1 14)).1 = -1 ∧ ¬ (psL (parseR (X.1 12) L (X.1 13) (X.1 14)).2.2.2.1 (parseR (X.1 12) L (X.1 13) (X.1 14)).2.2.2.2 mm 0 (X.1 0)).1 = -1 ∧ Y = setRow (setRow (setRow (setRow (setRow X 11 (upd (upd (upd (upd (X.1 11) (6) (nI (parseR (X.1 12) L (X.1 13) (X.1 14)).2.1)) (7) (parseR (X.1 12) L (X.1 13) (X.1 14)).2.2.1) (5) 0) (2) (psL (parseR (X.1 12) L (X.1 13) (X.1 14)).2.2.2.1 (parseR (X.1 12) L (X.1 13) (X.1 14)).2.2.2.2 mm 0 (X.1 0)).1)) 14 (parseR (X.1 12) L (X.1 13) (X.1 14)).2.2.2.2) 13 (parseR (X.1 12) L (X.1 13) (X.1 14)).2.2.2.1) (sp + 1) (cpPlantR (X.1 (sp + 1)) (X.1 0))) 0 (cpPlantR (psL (parseR (X.1 12) L (X.1 13) (X.1 14)).2.2.2.1 (parseR (X.1 12) L (X.1 13) (X.1 14)).2.2.2.2 mm 0 (X.1 0)).2 (cpPlantR (X.1 (sp + 1)) (X.1 0))))) := by
  refine g_metX (cc := cX7_runScript) (maxL := 3) (ret := (some .int)) (by decide) rfl (Nat.le_of_ble_eq_true rfl) ?_
  intro p e s m below meth c ls C hr hlk hex hW hl
  have hx := C.1.1
  have hb := C.1.2.1
  have hS : va_S (Ab G) s.heap s.heap [] := va_S.rf
  have hl : lv_has ls 3 [(0, .ref (ad G 715))] := hl
  refine lv_aload_n hx hb dX7_runScript_0 rfl (lv_at hl 0 rfl) ?_
  refine gF_script C hW (hwc hwX7) (mc qw_291) dX7_runScript_1 ?_
  refine g_calli (va_runV (As := []) (rest := []) C.1 (cX5_parse_ok l G X L hL eL) (cwV 0 C.1.2.2.2.2 (gV qw_1355 qw_1356 qw_1357 qw_76 qw_1358) rfl rfl rfl (by decide +kernel) ⟨Nat.le_of_ble_eq_true rfl, Nat.le_of_ble_eq_true rfl⟩) (g_rScript C hW hS []) rfl rfl hl.1 rfl (lv_room (Nat.le_of_ble_eq_true rfl)) dX7_runScript_4 ⟨by decide, by decide⟩) hS (fun r_2 Y_3 H_4 locs_5 hW_6 hS_7 h_1 => ?_)
  obtain ⟨h_8, h_1⟩ := h_1
  subst h_8
  obtain ⟨w_9, ew_9⟩ : ∃ Z9, Z9 = upd (upd (X.1 11) (6) (nI (parseR (X.1 12) L (X.1 13) (X.1 14)).2.1)) (7) (parseR (X.1 12) L (X.1 13) (X.1 14)).2.2.1 := ⟨_, rfl⟩
  obtain ⟨w_10, ew_10⟩ : ∃ Z9, Z9 = (parseR (X.1 12) L (X.1 13) (X.1 14)).2.2.2.2 := ⟨_, rfl⟩
  obtain ⟨w_11, ew_11⟩ : ∃ Z9, Z9 = (parseR (X.1 12) L (X.1 13) (X.1 14)).2.2.2.1 := ⟨_, rfl⟩
  have qqw_9 : Y_3 = setRow (setRow (setRow X 11 w_9) 14 w_10) 13 w_11 := by rw [h_1, ew_9, ew_10, ew_11]
  have hW_12 : Wd G (setRow (setRow (setRow X 11 w_9) 14 w_10) 13 w_11) H_4 := Wd.cast (qqw_9) hW_6
  have kn_13 : w_9 (3) = nI sp := by rw [ew_9]; exact (kp_upd (by omega)).trans ((kp_upd (by omega)).trans es)
  have kn_14 : w_9 (4) = nI cn := by rw [ew_9]; exact (kp_upd (by omega)).trans ((kp_upd (by omega)).trans ec)
  have kn_15 : w_9 (5) = nI L := by rw [ew_9]; exact (kp_upd (by omega)).trans ((kp_upd (by omega)).trans eL)
  have kn_16 : w_9 (7) = nI mm := by rw [ew_9]; exact pk_us.trans em
  have kn_17 : ∀ i, i < mm → ∃ c, c < 10 ∧ w_11 i = nI (c + 1) := by rw [ew_11]; exact hcm
  refine lv_topi (fun v_18 ev_18 => ?_)
  refine lv_istore_n (lv' := [(1, .int v_18), (0, .ref (ad G 715))]) hx hb dX7_runScript_7 rfl hl (by decide) rfl (fun ls_19 hl_20 => ?_)
  refine lv_aload_n hx hb dX7_runScript_8 rfl (lv_at hl_20 1 rfl) ?_
  refine gF_script C hW_12 (hwc hwX7) (mc qw_291) dX7_runScript_9 ?_
  refine g_callv (va_runV (As := []) (rest := []) C.1 (cX5_empty_ok l G (setRow (setRow (setRow X 11 w_9) 14 w_10) 13 w_11)) (cwV 0 C.1.2.2.2.2 (gV qw_1415 qw_1416 qw_1417 qw_76 qw_1418) rfl rfl rfl (by decide +kernel) ⟨Nat.le_of_ble_eq_true rfl, Nat.le_of_ble_eq_true rfl⟩) (g_rScript C hW_12 hS_7 []) rfl rfl hl_20.1 rfl (lv_room (Nat.le_of_ble_eq_true rfl)) dX7_runScript_12 ⟨by decide, by decide⟩) hS_7 (fun Y_22 H_23 locs_24 hW_25 hS_26 h_21 => ?_)
  obtain ⟨w_27, ew_27⟩ : ∃ Z9, Z9 = upd w_9 (5) 0 := ⟨_, rfl⟩
  have kn_28 : w_27 (3) = nI sp := by rw [ew_27]; exact (kp_upd (by omega)).trans kn_13
  have kn_29 : w_27 (4) = nI cn := by rw [ew_27]; exact (kp_upd (by omega)).trans kn_14
  have kn_30 : w_27 (7) = nI mm := by rw [ew_27]; exact (kp_upd (by omega)).trans kn_16
  have hW_31 : Wd G (setRow (setRow (setRow X 11 w_27) 14 w_10) 13 w_11) H_23 := Wd.cast (by rw [h_21, ew_27]; exact ((congrArg (fun Z9 => setRow (setRow (setRow (setRow X 11 w_9) 14 w_10) 13 w_11) 11 (upd Z9 (5) 0)) (rd_in (by decide) (rd_in (by decide) rd_out))).trans (sr_in (by decide) (sr_in (by decide) sr_out)))) hW_25
  refine lv_iload_n hx hb dX7_runScript_15 rfl (lv_at hl_20 0 rfl) ?_
  refine lv_iconst (v := (-1)) hx hb dX7_runScript_16 (by decide) ?_
  refine lv_icmp_eq (tgt := 33) hx hb dX7_runScript_17 (by decide) (fun b_32 => ?_) (fun b_32 => ?_)
  · refine lv_aload_n hx hb dX7_runScript_33 rfl (lv_at hl_20 1 rfl) ?_
    by_cases hps : (psL w_11 w_10 mm 0 (X.1 0)).1 = -1
    · refine g_calli (va_runV (As := []) (rest := []) C.1 (cX7_performScript1_ok l G (setRow (setRow (setRow X 11 w_27) 14 w_10) 13 w_11) hi sp hsp ((congrFun (rd_in (by decide) (rd_in (by decide) rd_out)) _).trans kn_28) cn hcn ((congrFun (rd_in (by decide) (rd_in (by decide) rd_out)) _).trans kn_29) mm hm ((congrFun (rd_in (by decide) (rd_in (by decide) rd_out)) _).trans kn_30) kn_17 hps) (cwV 0 C.1.2.2.2.2 (gV qw_1419 qw_1421 qw_28 qw_71 qw_1422) rfl rfl rfl (by decide +kernel) ⟨Nat.le_of_ble_eq_true rfl, Nat.le_of_ble_eq_true rfl⟩) (g_rFoundry C hW_31 hS_26 []) rfl rfl hl_20.1 rfl (lv_room (Nat.le_of_ble_eq_true rfl)) dX7_runScript_34 ⟨by decide, by decide⟩) hS_26 (fun r_34 Y_35 H_36 locs_37 hW_38 hS_39 h_33 => ?_)
      obtain ⟨h_40, h_33⟩ := h_33
      rw [show (setRow (setRow (setRow X 11 w_27) 14 w_10) 13 w_11).1 (sp + 1) = X.1 (sp + 1) from (rd_in (by omega) (rd_in (by omega) (rd_in (by omega) rfl))), show (setRow (setRow (setRow X 11 w_27) 14 w_10) 13 w_11).1 0 = X.1 0 from (rd_in (by decide) (rd_in (by decide) (rd_in (by decide) rfl)))] at h_33
      subst h_40
      replace h_33 : Y_35 = setRow (setRow (setRow (setRow (setRow (setRow X 11 w_27) 14 w_10) 13 w_11) (sp + 1) (cpPlantR (X.1 (sp + 1)) (X.1 0))) 0 (psL w_11 w_10 mm 0 (X.1 0)).2) 11 (keepR w_27 sp cn) := h_33
      obtain ⟨w_42, ew_42⟩ : ∃ Z9, Z9 = cpPlantR (X.1 (sp + 1)) (X.1 0) := ⟨_, rfl⟩
      obtain ⟨w_43, ew_43⟩ : ∃ Z9, Z9 = (psL w_11 w_10 mm 0 (X.1 0)).2 := ⟨_, rfl⟩
      obtain ⟨w_44, ew_44⟩ : ∃ Z9, Z9 = keepR w_27 sp cn := ⟨_, rfl⟩
      have qqw_42 : Y_35 = setRow (setRow (setRow (setRow (setRow (setRow X 11 w_27) 14 w_10) 13 w_11) (sp + 1) w_42) 0 w_43) 11 w_44 := by rw [h_33, ew_42, ew_43, ew_44]
      have hW_45 : Wd G (setRow (setRow (setRow (setRow (setRow X 11 w_44) 14 w_10) 13 w_11) (sp + 1) w_42) 0 w_43) H_36 := Wd.cast ((qqw_42).trans (congrArg (fun Z9 => Z9) (sr_in (by decide) (sr_in (by omega) (sr_in (by decide) (sr_in (by decide) sr_out)))))) hW_38
      have kn_41 : w_44 (7) = nI mm := by rw [ew_44]; exact (kp_keepR (by omega)).trans kn_30
      refine lv_istore_n (lv' := [(2, .int (-1)), (1, .int v_18), (0, .ref (ad G 715))]) hx hb dX7_runScript_37 rfl hl_20 (by decide) rfl (fun ls_46 hl_47 => ?_)
      refine lv_iload_n hx hb dX7_runScript_38 rfl (lv_at hl_47 0 rfl) ?_
      refine lv_iconst (v := (-1)) hx hb dX7_runScript_39 (by decide) ?_
      refine lv_icmp_eq (tgt := 56) hx hb dX7_runScript_40 (by decide) (fun _ => ?_) (fun h9 => absurd h9 (by decide))
      refine lv_aload_n hx hb dX7_runScript_56 rfl (lv_at hl_47 2 rfl) ?_
      refine gF_script C hW_45 (hwc hwX7) (mc qw_291) dX7_runScript_57 ?_
      refine gSc_commandCountN C hW_45 (hwc hwX5) nw_15 dX7_runScript_60 ?_
      refine g_top (y := w_44 (7)) (congrFun (rd_in (by decide) (rd_in (by omega) (rd_in (by decide) (rd_in (by decide) rd_out)))) _) ?_
      refine g_top (y := nI mm) kn_41 ?_
      refine W.widen (k := 1) (n := 6) (by decide) (by decide) ?_
      refine vx_ret ?_
      exact g_iret C hr hlk hW_45 hS_39 dX7_runScript_63 (by subst ew_44; subst ew_43; subst ew_42; subst ew_27; subst ev_18; subst ew_11; subst ew_10; subst ew_9; exact ⟨⟨b_32, hps, rfl⟩, rfl⟩)
    · refine g_calli (va_runV (As := []) (rest := []) C.1 (cX7_performScript0_ok l G (setRow (setRow (setRow X 11 w_27) 14 w_10) 13 w_11) hi sp hsp ((congrFun (rd_in (by decide) (rd_in (by decide) rd_out)) _).trans kn_28) cn hcn ((congrFun (rd_in (by decide) (rd_in (by decide) rd_out)) _).trans kn_29) mm hm ((congrFun (rd_in (by decide) (rd_in (by decide) rd_out)) _).trans kn_30) kn_17 hps) (cwV 0 C.1.2.2.2.2 (gV qw_1419 qw_1421 qw_28 qw_71 qw_1422) rfl rfl rfl (by decide +kernel) ⟨Nat.le_of_ble_eq_true rfl, Nat.le_of_ble_eq_true rfl⟩) (g_rFoundry C hW_31 hS_26 []) rfl rfl hl_20.1 rfl (lv_room (Nat.le_of_ble_eq_true rfl)) dX7_runScript_34 ⟨by decide, by decide⟩) hS_26 (fun r_49 Y_50 H_51 locs_52 hW_53 hS_54 h_48 => ?_)
      obtain ⟨h_55, h_48⟩ := h_48
      rw [show (setRow (setRow (setRow X 11 w_27) 14 w_10) 13 w_11).1 (sp + 1) = X.1 (sp + 1) from (rd_in (by omega) (rd_in (by omega) (rd_in (by omega) rfl))), show (setRow (setRow (setRow X 11 w_27) 14 w_10) 13 w_11).1 0 = X.1 0 from (rd_in (by decide) (rd_in (by decide) (rd_in (by decide) rfl)))] at h_48
      replace h_55 : r_49 = (psL w_11 w_10 mm 0 (X.1 0)).1 := h_55
      subst h_55
      replace h_48 : Y_50 = setRow (setRow (setRow (setRow (setRow X 11 w_27) 14 w_10) 13 w_11) (sp + 1) (cpPlantR (X.1 (sp + 1)) (X.1 0))) 0 (cpPlantR (psL w_11 w_10 mm 0 (X.1 0)).2 (cpPlantR (X.1 (sp + 1)) (X.1 0))) := h_48
      obtain ⟨w_56, ew_56⟩ : ∃ Z9, Z9 = cpPlantR (X.1 (sp + 1)) (X.1 0) := ⟨_, rfl⟩
      obtain ⟨w_57, ew_57⟩ : ∃ Z9, Z9 = cpPlantR (psL w_11 w_10 mm 0 (X.1 0)).2 (cpPlantR (X.1 (sp + 1)) (X.1 0)) := ⟨_, rfl⟩
      have qqw_56 : Y_50 = setRow (setRow (setRow (setRow (setRow X 11 w_27) 14 w_10) 13 w_11) (sp + 1) w_56) 0 w_57 := by rw [h_48, ew_56, ew_57]
      have hW_58 : Wd G (setRow (setRow (setRow (setRow (setRow X 11 w_27) 14 w_10) 13 w_11) (sp + 1) w_56) 0 w_57) H_51 := Wd.cast (qqw_56) hW_53
      refine lv_topi (fun v_59 ev_59 => ?_)
      refine lv_istore_n (lv' := [(2, .int v_59), (1, .int v_18), (0, .ref (ad G 715))]) hx hb dX7_runScript_37 rfl hl_20 (by decide) rfl (fun ls_60 hl_61 => ?_)
      refine lv_iload_n hx hb dX7_runScript_38 rfl (lv_at hl_61 0 rfl) ?_
      refine lv_iconst (v := (-1)) hx hb dX7_runScript_39 (by decide) ?_
      refine lv_icmp_eq (tgt := 56) hx hb dX7_runScript_40 (by decide) (fun h9 => absurd h9 (by rw [ev_59]; exact hps)) (fun _ => ?_)
      refine lv_aload_n hx hb dX7_runScript_43 rfl (lv_at hl_61 2 rfl) ?_
      refine lv_iload_n hx hb dX7_runScript_44 rfl (lv_at hl_61 0 rfl) ?_
      refine gF_lastFailedCommandP C hW_58 hS_54 (hwc hwX7) (mc qw_293) dX7_runScript_45 (fun H_62 locs_63 hW_64 hS_65 => ?_)
      obtain ⟨w_66, ew_66⟩ : ∃ Z9, Z9 = upd w_27 (2) v_59 := ⟨_, rfl⟩
      have kn_67 : w_66 (3) = nI sp := by rw [ew_66]; exact (pk_un (by omega)).trans kn_28
      have kn_68 : w_66 (4) = nI cn := by rw [ew_66]; exact (pk_un (by omega)).trans kn_29
      have kn_69 : w_66 (7) = nI mm := by rw [ew_66]; exact (pk_un (by omega)).trans kn_30
      have hW_70 : Wd G (setRow (setRow (setRow (setRow (setRow X 11 w_66) 14 w_10) 13 w_11) (sp + 1) w_56) 0 w_57) H_62 := Wd.cast (by rw [ew_66]; exact (st_in (by decide) (st_in (by omega) (st_in (by decide) (st_in (by decide) st_out))))) hW_64
      exact g_thr0 C hst (ik := 111) (ic := 113) (names := ["java/lang/RuntimeException", "java/lang/Exception"]) hex hlk hl_61.1 (by decide) (by decide) (mc qk_ISE) (mc qi_ISE) (fun w hw => mc (qg_ISE w hw)) qn_ISE nest_on qo_ISE dX7_runScript_48 dX7_runScript_51 dX7_runScript_52 dX7_runScript_55 (Nat.le_of_ble_eq_true rfl) (Nat.le_of_ble_eq_true rfl) (by decide) (by decide) (by decide) (by decide) hW_70 hS_65 (by subst ew_66; subst ev_59; subst ew_57; subst ew_56; subst ew_27; subst ev_18; subst ew_11; subst ew_10; subst ew_9; exact Or.inr ⟨rfl, b_32, hps, rfl⟩)
  · refine lv_aload_n hx hb dX7_runScript_20 rfl (lv_at hl_20 1 rfl) ?_
    refine lv_iload_n hx hb dX7_runScript_21 rfl (lv_at hl_20 0 rfl) ?_
    refine gF_lastErrorPositionP C hW_31 hS_26 (hwc hwX7) (mc qw_292) dX7_runScript_22 (fun H_71 locs_72 hW_73 hS_74 => ?_)
    obtain ⟨w_75, ew_75⟩ : ∃ Z9, Z9 = upd w_27 (1) v_18 := ⟨_, rfl⟩
    have kn_76 : w_75 (3) = nI sp := by rw [ew_75]; exact (pk_un (by omega)).trans kn_28
    have kn_77 : w_75 (4) = nI cn := by rw [ew_75]; exact (pk_un (by omega)).trans kn_29
    have kn_78 : w_75 (7) = nI mm := by rw [ew_75]; exact (pk_un (by omega)).trans kn_30
    have hW_79 : Wd G (setRow (setRow (setRow X 11 w_75) 14 w_10) 13 w_11) H_71 := Wd.cast (by rw [ew_75]; exact (st_in (by decide) (st_in (by decide) st_out))) hW_73
    exact g_thr0 C hst (ik := 105) (ic := 107) (names := ["java/lang/RuntimeException", "java/lang/Exception"]) hex hlk hl_20.1 (by decide) (by decide) (mc qk_IAE) (mc qi_IAE) (fun w hw => mc (qg_IAE w hw)) qn_IAE nest_on qo_IAE dX7_runScript_25 dX7_runScript_28 dX7_runScript_29 dX7_runScript_32 (Nat.le_of_ble_eq_true rfl) (Nat.le_of_ble_eq_true rfl) (by decide) (by decide) (by decide) (by decide) hW_79 hS_74 (by subst ew_75; subst ew_27; subst ev_18; subst ew_11; subst ew_10; subst ew_9; exact Or.inl ⟨rfl, b_32, rfl⟩)

set_option maxHeartbeats 4000000 in
set_option maxRecDepth 100000 in
theorem cX7_renderGrades_ok (l : Launch) (G : GT) (X : St) (hi : PInv (X.1 0)) (cp : Nat) (hcp : 16 ≤ cp ∧ cp ≤ 34) (hcap : X.2.2.1 = cp) (hcd : X.1 11 8 = 0) (n : Nat) (hcnt : X.1 11 10 = nI n) (hn : n ≤ cp) : MetI l G yX7_renderGrades (wsG yX7_renderGrades cX7_renderGrades 2 (some .int)) (rmz 3 66) [.ref (ad G 715)] X (fun res Y => res = nI (X.1 0 43).toNatClampNeg ∧ Y = setRow (sbB X (grL (X.1 0) (X.1 0 43).toNatClampNeg 0 X.2.2.2.1)) 11 (upd (slU (X.1 11) n) (10) (nI (X.1 0 43).toNatClampNeg))) := by
  refine g_met (cc := cX7_renderGrades) (maxL := 2) (ret := (some .int)) (by decide) rfl (Nat.le_of_ble_eq_true rfl) ?_
  intro p e s m below meth c ls C hr hlk hnm hW hl
  have hx := C.1.1
  have hb := C.1.2.1
  have hS : va_S (Ab G) s.heap s.heap [] := va_S.rf
  have hl : lv_has ls 2 [(0, .ref (ad G 715))] := hl
  obtain ⟨⟨km, hkm, em⟩, ⟨ki, hki, ei⟩⟩ := hi
  have eki : (X.1 0 43).toNatClampNeg = ki := by rw [ei]; exact clf (by omega)
  refine lv_aload_n hx hb dX7_renderGrades_0 rfl (lv_at hl 0 rfl) ?_
  refine gF_output C hW (hwc hwX7) (mc qw_294) dX7_renderGrades_1 ?_
  refine lv_iconst (v := 0) hx hb dX7_renderGrades_4 (by decide) ?_
  refine g_callv (va_runV (As := [.int 0]) (rest := []) C.1 (cJ4_setLength_d00df_ok l G X cp hcp hcap hcd n hcnt (by omega)) (cwV 1 C.1.2.2.2.2 (gV qw_389 qw_390 qw_391 qw_78 qw_392) rfl rfl rfl (by decide +kernel) ⟨Nat.le_of_ble_eq_true rfl, Nat.le_of_ble_eq_true rfl⟩) (g_rSB C hW hS [.int 0]) rfl rfl hl.1 rfl (lv_room (Nat.le_of_ble_eq_true rfl)) dX7_renderGrades_5 ⟨Nat.zero_le _, Nat.zero_le _⟩) hS (fun Y_2 H_4 locs_5 hW_6 hS_7 h_1 => ?_)
  obtain ⟨w_8, ew_8⟩ : ∃ Z9, Z9 = slR (X.1 11) n := ⟨_, rfl⟩
  have kn_9 : w_8 (8) = 0 := by rw [ew_8]; exact (slR_8 _ _).trans hcd
  have kn_10 : w_8 (10) = nI 0 := by rw [ew_8]; exact slR_10 _ _
  have hW_11 : Wd G (setRow X 11 w_8) H_4 := Wd.cast (by subst ew_8; exact h_1) hW_6
  refine lv_iconst (v := 0) hx hb dX7_renderGrades_8 (by decide) ?_
  refine lv_istore_n (lv' := [(1, .int 0), (0, .ref (ad G 715))]) hx hb dX7_renderGrades_9 rfl hl (by decide) rfl (fun ls_12 hl_13 => ?_)
  have loop : ∀ (q : Nat) (kk : Nat) (z11 zb : Nat → Int32) (H : Heap) (locs : List Loc) (ls : Array Slot), kk + q = ki → z11 = upd (slU (X.1 11) n) (10) (nI kk) → z11 (8) = 0 → z11 (10) = nI kk → grL (X.1 0) q kk zb = grL (X.1 0) ki 0 X.2.2.2.1 → Wd G (setRow (sbB X zb) 11 z11) H → va_S (Ab G) s.heap H locs → lv_has ls 2 [(1, .int (nI kk)), (0, .ref (ad G 715))] → W p l e (rmz 3 66) s m ([.ref (ad G 715)] : List Value).toArray below meth c H locs 0 0 (MQ below (Ki G (fun res Y => res = nI (X.1 0 43).toNatClampNeg ∧ Y = setRow (sbB X (grL (X.1 0) (X.1 0 43).toNatClampNeg 0 X.2.2.2.1)) 11 (upd (slU (X.1 11) n) (10) (nI (X.1 0 43).toNatClampNeg)))) ([.ref (ad G 715)] : List Value).toArray s 0 0 (Ab G)) (F0 m 10 ls []) := by
    intro q
    induction q with
    | zero =>
      intro kk z11 zb H locs ls hq hz k8 k10 hf hW hS hl
      have hkk : kk = ki := by omega
      refine lv_iload_n hx hb dX7_renderGrades_10 rfl (lv_at hl 0 rfl) ?_
      refine lv_aload_n hx hb dX7_renderGrades_11 rfl (lv_at hl 1 rfl) ?_
      refine gF_plant C hW (hwc hwX7) (mc qw_287) dX7_renderGrades_12 ?_
      refine gP_ingotCountN C hW h0_11 (hwc hwX4) nw_9 dX7_renderGrades_15 ?_
      refine g_top (y := X.1 0 (43)) (congrFun (rd_in (by decide) rfl) _) ?_
      refine g_top (y := nI ki) ei ?_
      refine lv_icmp_ge (tgt := 47) hx hb dX7_renderGrades_18 (by decide) (fun _ => ?_) (fun h9 => absurd ((nI_leI (a := ki) (b := kk) (by omega) (by omega)).mpr (by omega)) h9)
      refine lv_aload_n hx hb dX7_renderGrades_47 rfl (lv_at hl 1 rfl) ?_
      refine gF_output C hW (hwc hwX7) (mc qw_294) dX7_renderGrades_48 ?_
      refine g_calli (va_runV (As := []) (rest := []) C.1 (cJ4_length_8abf5_ok l G (setRow (sbB X zb) 11 z11) kk ((congrFun rd_out _).trans k10)) (cwV 0 C.1.2.2.2.2 (gV qw_767 qw_571 qw_1956 qw_78 qw_572) rfl rfl rfl (by decide +kernel) ⟨Nat.le_of_ble_eq_true rfl, Nat.le_of_ble_eq_true rfl⟩) (g_rSB C hW hS []) rfl rfl hl.1 rfl (lv_room (Nat.le_of_ble_eq_true rfl)) dX7_renderGrades_51 ⟨Nat.zero_le _, Nat.zero_le _⟩) hS (fun r_16 Y_15 H_17 locs_18 hW_19 hS_20 h_14 => ?_)
      obtain ⟨h_14, hy_21⟩ := h_14
      replace hy_21 := hy_21.symm
      subst hy_21
      subst h_14
      exact g_iret C hr hlk hW_19 hS_20 dX7_renderGrades_54 ⟨by rw [eki, hkk], by rw [eki, hz, ← hf, hkk]; rfl⟩
    | succ q ih =>
      intro kk z11 zb H locs ls hq hz k8 k10 hf hW hS hl
      refine lv_iload_n hx hb dX7_renderGrades_10 rfl (lv_at hl 0 rfl) ?_
      refine lv_aload_n hx hb dX7_renderGrades_11 rfl (lv_at hl 1 rfl) ?_
      refine gF_plant C hW (hwc hwX7) (mc qw_287) dX7_renderGrades_12 ?_
      refine gP_ingotCountN C hW h0_11 (hwc hwX4) nw_9 dX7_renderGrades_15 ?_
      refine g_top (y := X.1 0 (43)) (congrFun (rd_in (by decide) rfl) _) ?_
      refine g_top (y := nI ki) ei ?_
      refine lv_icmp_ge (tgt := 47) hx hb dX7_renderGrades_18 (by decide) (fun h9 => absurd h9 (fun h8 => absurd ((nI_leI (a := ki) (b := kk) (by omega) (by omega)).mp h8) (by omega))) (fun _ => ?_)
      refine lv_aload_n hx hb dX7_renderGrades_21 rfl (lv_at hl 1 rfl) ?_
      refine gF_output C hW (hwc hwX7) (mc qw_294) dX7_renderGrades_22 ?_
      refine lv_aload_n hx hb dX7_renderGrades_25 rfl (lv_at hl 1 rfl) ?_
      refine gF_plant C hW (hwc hwX7) (mc qw_287) dX7_renderGrades_26 ?_
      refine gP_ingotsN C hW h0_11 (hwc hwX4) nw_10 dX7_renderGrades_29 ?_
      refine lv_iload_n hx hb dX7_renderGrades_32 rfl (lv_at hl 0 rfl) ?_
      refine g_ing C hW h0_11 kk (nI_clamp (by omega)) (vp_in_nI (show kk < 12 by omega) (by decide)) dX7_renderGrades_33 ?_
      refine g_calli (va_runV (As := []) (rest := [.ref (ad G 722)]) C.1 (cX3_quality_ok l G (setRow (sbB X zb) 11 z11) (65 * 0 + (41 + 2 * kk)) (65 * 0 + (42 + 2 * kk)) 0 (80 + 4 * kk) (mix_ing (G := G) h0_11 (show kk < 12 by omega))) (cwV 0 C.1.2.2.2.2 (gV qw_736 qw_737 qw_738 qw_73 qw_739) rfl rfl rfl (by decide +kernel) ⟨Nat.le_of_ble_eq_true rfl, Nat.le_of_ble_eq_true rfl⟩) (g_rMix C hW hS (mix_ing (G := G) h0_11 (show kk < 12 by omega)) []) rfl rfl hl.1 rfl (lv_room (Nat.le_of_ble_eq_true rfl)) dX7_renderGrades_34 ⟨Nat.zero_le _, Nat.zero_le _⟩) hS (fun r_23 Y_24 H_25 locs_26 hW_27 hS_28 h_22 => ?_)
      obtain ⟨h_22, hy_29⟩ := h_22
      replace hy_29 := hy_29.symm
      subst hy_29
      replace h_22 := h_22.trans (congrArg (fun Z9 => gradeW Z9 (80 + 4 * kk)) (rd_in (by decide) rfl))
      subst h_22
      obtain ⟨ch_30, hch_30, ech_30⟩ := grade_nat (X.1 0) (80 + 4 * kk)
      refine g_top (y := nI ch_30) ech_30 ?_
      refine g_callr (va_runV (As := [.int (nI ch_30)]) (rest := []) C.1 (cJ4_append_cf468_ok l G (setRow (sbB X zb) 11 z11) cp hcp hcap ((congrFun rd_out _).trans k8) kk ((congrFun rd_out _).trans k10) (by omega) ch_30 hch_30) (cwV 1 C.1.2.2.2.2 (gV qw_745 qw_746 qw_747 qw_78 qw_748) rfl rfl rfl (by decide +kernel) ⟨Nat.le_of_ble_eq_true rfl, Nat.le_of_ble_eq_true rfl⟩) (g_rSB C hW_27 hS_28 [.int (nI ch_30)]) rfl rfl hl.1 rfl (lv_room (Nat.le_of_ble_eq_true rfl)) dX7_renderGrades_37 ⟨Nat.zero_le _, Nat.zero_le _⟩) hS_28 (fun r_33 Y_32 H_34 locs_35 hW_36 hS_37 h_31 => ?_)
      obtain ⟨hr_38, hy_39⟩ := h_31
      dsimp only at hr_38 hy_39
      subst hr_38
      obtain ⟨w_41, ew_41⟩ : ∃ Z9, Z9 = upd zb kk (nI ch_30) := ⟨_, rfl⟩
      obtain ⟨w_40, ew_40⟩ : ∃ Z9, Z9 = upd z11 (10) (nI (kk + 1)) := ⟨_, rfl⟩
      have kn_42 : w_40 (8) = 0 := by rw [ew_40]; exact (pk_un (by omega)).trans k8
      have kn_43 : w_40 (10) = nI (kk + 1) := by rw [ew_40]; exact pk_us
      have hW_44 : Wd G (setRow (sbB X w_41) 11 w_40) H_34 := Wd.cast (by subst ew_40 ew_41; exact hy_39.trans sb_out) hW_36
      refine lv_pop hx hb dX7_renderGrades_40 rfl ?_
      refine lv_iinc (v := nI (kk + 1)) (lv' := [(1, .int (nI (kk + 1))), (0, .ref (ad G 715))]) hx hb dX7_renderGrades_41 hl (k := 0) rfl (nI_1 kk) (by decide) rfl (fun ls_45 hl_46 => ?_)
      refine lv_goto (tgt := 10) hx hb dX7_renderGrades_44 (by decide) ?_
      exact ih (kk + 1) w_40 w_41 H_34 locs_35 ls_45 (by omega) (by subst ew_40; subst ew_41; rw [hz, uu10]) kn_42 kn_43 (by rw [← hf, grL, ech_30]; subst ew_40; subst ew_41; rfl) hW_44 hS_37 (lv_sub hl_46 [0, 1] rfl)
  exact loop ki 0 w_8 X.2.2.2.1 H_4 locs_5 ls_12 (by omega) (by subst ew_8; rfl) kn_9 kn_10 rfl hW_11 hS_7 (lv_sub hl_13 [0, 1] rfl)
