/-! type, the script's commands performed, the builder's letters. -/
theorem jtyp {x : Int32} (h1 : ¬ x < 32) (h2 : x ≤ 126) : ∃ c, 32 ≤ c ∧ c ≤ 126 ∧ x = nI c := by
  have h0 : ¬ x < 0 := fun z => h1 (Int32.lt_trans z (by decide))
  obtain ⟨j, hj, rfl⟩ := nI_of h0
  refine ⟨j, ?_, (nI_leI hj (by decide : 126 < 2 ^ 31)).mp h2, rfl⟩
  exact Nat.not_lt.mp fun z => h1 ((nI_ltI hj (by decide : 32 < 2 ^ 31)).mpr z)
def tyE (x : Int32) : Int32 := if x < 32 then nI 1 else if x ≤ 126 then 0 else nI 1
def tyF (x : Int32) : Int32 := if x < 32 then nI 1 else if x ≤ 126 then nI 2 else nI 1
def cmdI (a : Nat → Int32) (i : Nat) : Nat := (a i).toNatClampNeg - 1
def psL (a b : Nat → Int32) : Nat → Nat → (Nat → Int32) → Int32 × (Nat → Int32)
  | 0, _, w => (-1, w)
  | q + 1, i, w => if 0 ≤ (performR (cmdI a i) w (b (3 * i + 0)) (b (3 * i + 1)) (b (3 * i + 2))).1 then psL a b q (i + 1) (performR (cmdI a i) w (b (3 * i + 0)) (b (3 * i + 1)) (b (3 * i + 2))).2 else (nI i, (performR (cmdI a i) w (b (3 * i + 0)) (b (3 * i + 1)) (b (3 * i + 2))).2)
theorem kp_keepR {w : Nat → Int32} {sp cn j : Nat} (h : j ≠ 3 ∧ j ≠ 4) : keepR w sp cn j = w j := by
  unfold keepR
  rw [pk_un h.2, pk_un h.1]
theorem nI_nm1 {k : Nat} (h : k < 2 ^ 31) : ¬ nI k = -1 := fun q => by
  have h1 := congrArg Int32.toInt q
  rw [nI_toInt h] at h1
  have h2 : (-1 : Int32).toInt = -1 := by decide
  omega
theorem g_cmdld {p : Program} {l : Launch} {e : Env} {R : Room} {s : State} {m : MethodId} {args : Array Value} {below : List Frame} {meth : Method} {c : Code} {H : Heap} {locs : List Loc} {cells slots : Nat} {Q : State → Prop}
    {cc : ByteArray} {nL pc : Nat} {ls : Array Slot} {rest : List Value} {G : GT} {X : St} {Ts : List Cond} {own : String} (C : Cx p m c cc nL s args Ts own G) (hW : Wd G X H) {x : Int32} (j : Nat) (hx : x.toNatClampNeg = j) (hin : vp_in x 60) {i : Nat} (hi : i < 10) (he : X.1 13 j = nI (i + 1)) (hdg : decode cc pc = .ok (.aaload, 1))
    (kk : W p l e R s m args below meth c H locs cells slots Q (F0 m (pc + 1) ls (.ref (cy G (20 + i)) :: rest))) : W p l e R s m args below meth c H locs cells slots Q (F0 m pc ls (.int x :: .ref (ad G 720) :: rest)) := by
  have hj : j < 60 := by rw [← hx]; exact Nat.not_le.mp fun q => hin (Or.inr q)
  have hc : (wl G X)[720]? = some (ad G 720, .inl (cy G 8, 60, .inr (.inr (.inr (.inr (fun j => if j < 60 then (if X.1 13 j = 0 then none else some (cy G (19 + (X.1 13 j).toNatClampNeg))) else none)))))) := wl_at nk_720.1 nk_720.2 (cell_s (o := 5))
  refine va_aldA (D := gD G) C.1.1 C.1.2.1 C.2.1 hW.1 720 8 hc rfl rfl hin hdg ?_
  have h6 : ∀ i, i < 10 → ¬ nI (i + 1) = 0 := by decide +kernel
  rw [hx, if_pos hj, he, if_neg (h6 i hi), nI_clamp (show i + 1 < 2 ^ 31 by omega), show 19 + (i + 1) = 20 + i by omega]
  exact kk
theorem qw_78 : Cond.initialized "java/lang/StringBuilder" ∈ lw_all := lw_mem 78 (by decide +kernel) (by decide +kernel)
theorem qw_571 : Cond.instanceMethod ⟨"java/lang/StringBuilder", "length", "()I"⟩ ∈ lw_all := lw_mem 571 (by decide +kernel) (by decide +kernel)
theorem qw_572 : Cond.code ⟨"java/lang/StringBuilder", "length", "()I"⟩ prog_29_method_93_code 1 (some FieldType.int) ∈ lw_all := lw_mem 572 (by decide +kernel) (by decide +kernel)
theorem qw_1328 : Cond.instanceMethod ⟨"java/lang/StringBuilder", "charAt", "(I)C"⟩ ∈ lw_all := lw_mem 1328 (by decide +kernel) (by decide +kernel)
theorem qw_1329 : Cond.selects "java/lang/StringBuilder" ⟨"java/lang/StringBuilder", "charAt", "(I)C"⟩ ⟨"java/lang/StringBuilder", "charAt", "(I)C"⟩ ∈ lw_all := lw_mem 1329 (by decide +kernel) (by decide +kernel)
theorem qw_1330 : Cond.code ⟨"java/lang/StringBuilder", "charAt", "(I)C"⟩ prog_29_method_88_code 2 (some FieldType.char) ∈ lw_all := lw_mem 1330 (by decide +kernel) (by decide +kernel)
theorem qw_1956 : Cond.selects "java/lang/StringBuilder" ⟨"java/lang/StringBuilder", "length", "()I"⟩ ⟨"java/lang/StringBuilder", "length", "()I"⟩ ∈ lw_all := lw_mem 1956 (by decide +kernel) (by decide +kernel)
set_option maxHeartbeats 4000000 in
set_option maxRecDepth 100000 in
theorem cX7_type1_ok (l : Launch) (G : GT) (hst : l.stackTraces = false) (X : St) (L : Nat) (hL : L < 60) (eL : X.1 11 5 = nI L) (x : Int32) : MetXI l G 1 yX7_type (wsG yX7_type cX7_type 2 (some .int)) (rmk 1 6 100) [.ref (ad G 715), .int x] X (fun res Y => (tyE x = 0 ∧ res = nI (L + 1)) ∧ Y = setRow (setRow X 12 (upd (X.1 12) (L) x)) 11 (upd (X.1 11) (5) (nI (L + 1)))) (fun E Y => exN ["java/lang/IllegalArgumentException"] E (tyE x) ∧ Y = X) := by
  refine g_metX (cc := cX7_type) (maxL := 2) (ret := (some .int)) (by decide) rfl (Nat.le_of_ble_eq_true rfl) ?_
  intro p e s m below meth c ls C hr hlk hex hW hl
  have hx := C.1.1
  have hb := C.1.2.1
  have hS : va_S (Ab G) s.heap s.heap [] := va_S.rf
  have hl : lv_has ls 2 [(0, .ref (ad G 715)), (1, .int x)] := hl
  refine lv_iload_n hx hb dX7_type_0 rfl (lv_at hl 1 rfl) ?_
  refine lv_bipush (v := 32) hx hb dX7_type_1 (by decide) ?_
  refine lv_icmp_lt (tgt := 12) hx hb dX7_type_3 (by decide) (fun b_1 => ?_) (fun b_1 => ?_)
  · exact g_thr0 C hst (ik := 105) (ic := 107) (names := ["java/lang/RuntimeException", "java/lang/Exception"]) hex hlk hl.1 (by decide) (by decide) (mc qk_IAE) (mc qi_IAE) (fun w hw => mc (qg_IAE w hw)) qn_IAE nest_on qo_IAE dX7_type_12 dX7_type_15 dX7_type_16 dX7_type_19 (Nat.le_of_ble_eq_true rfl) (Nat.le_of_ble_eq_true rfl) (by decide) (by decide) (by decide) (by decide) hW hS (by first | exact ⟨⟨0, rfl, by simp only [tyE, tyF, b_1, if_true, if_false]⟩, rfl⟩ | exact ⟨⟨0, rfl, by simp only [tyE, tyF, ex9, ey9, if_true, if_false]⟩, rfl⟩)
  · refine lv_iload_n hx hb dX7_type_6 rfl (lv_at hl 1 rfl) ?_
    refine lv_bipush (v := 126) hx hb dX7_type_7 (by decide) ?_
    refine lv_icmp_le (tgt := 20) hx hb dX7_type_9 (by decide) (fun b_2 => ?_) (fun b_2 => ?_)
    · have ex9 := b_1
      have ey9 := b_2
      obtain ⟨ch, hc1, hc2, rfl⟩ := jtyp b_1 b_2
      refine lv_aload_n hx hb dX7_type_20 rfl (lv_at hl 0 rfl) ?_
      refine gF_script C hW (hwc hwX7) (mc qw_291) dX7_type_21 ?_
      refine lv_iload_n hx hb dX7_type_24 rfl (lv_at hl 1 rfl) ?_
      refine g_calli (va_runV (As := [.int (nI ch)]) (rest := []) C.1 (cX5_append1_ok l G X L hL eL ch (show ch < 128 by omega)) (cwV 1 C.1.2.2.2.2 (gV qw_1344 qw_1345 qw_1346 qw_76 qw_1347) rfl rfl rfl (by decide +kernel) ⟨Nat.le_of_ble_eq_true rfl, Nat.le_of_ble_eq_true rfl⟩) (g_rScript C hW hS [.int (nI ch)]) rfl rfl hl.1 rfl (lv_room (Nat.le_of_ble_eq_true rfl)) dX7_type_25 ⟨by decide, by decide⟩) hS (fun r_4 Y_5 H_6 locs_7 hW_8 hS_9 h_3 => ?_)
      obtain ⟨h_10, h_3⟩ := h_3
      subst h_10
      have hW_11 : Wd G (setRow (setRow X 12 (upd (X.1 12) (L) (nI ch))) 11 (upd (X.1 11) (5) (nI (L + 1)))) H_6 := Wd.cast h_3 hW_8
      refine lv_if_ne (tgt := 39) hx hb dX7_type_28 (by decide) (fun _ => ?_) (fun h9 => absurd h9 (by decide))
      refine lv_aload_n hx hb dX7_type_39 rfl (lv_at hl 0 rfl) ?_
      refine gF_script C hW_11 (hwc hwX7) (mc qw_291) dX7_type_40 ?_
      refine gSc_lengthN C hW_11 (hwc hwX5) nw_14 dX7_type_43 ?_
      refine g_top (y := upd (X.1 11) (5) (nI (L + 1)) (5)) (congrFun rd_out _) ?_
      refine g_top (y := nI (L + 1)) pk_us ?_
      refine W.widen (k := 1) (n := 6) (by decide) (by decide) ?_
      refine vx_ret ?_
      exact g_iret C hr hlk hW_11 hS_9 dX7_type_46 (by exact ⟨⟨by simp only [tyE, ex9, ey9, if_true, if_false], rfl⟩, rfl⟩)
    · exact g_thr0 C hst (ik := 105) (ic := 107) (names := ["java/lang/RuntimeException", "java/lang/Exception"]) hex hlk hl.1 (by decide) (by decide) (mc qk_IAE) (mc qi_IAE) (fun w hw => mc (qg_IAE w hw)) qn_IAE nest_on qo_IAE dX7_type_12 dX7_type_15 dX7_type_16 dX7_type_19 (Nat.le_of_ble_eq_true rfl) (Nat.le_of_ble_eq_true rfl) (by decide) (by decide) (by decide) (by decide) hW hS (by first | exact ⟨⟨0, rfl, by simp only [tyE, tyF, b_1, b_2, if_true, if_false]⟩, rfl⟩ | exact ⟨⟨0, rfl, by simp only [tyE, tyF, ex9, ey9, if_true, if_false]⟩, rfl⟩)

set_option maxHeartbeats 4000000 in
set_option maxRecDepth 100000 in
theorem cX7_type0_ok (l : Launch) (G : GT) (hst : l.stackTraces = false) (X : St) (eL : X.1 11 5 = nI 60) (x : Int32) : MetXI l G 1 yX7_type (wsG yX7_type cX7_type 2 (some .int)) (rmk 1 6 100) [.ref (ad G 715), .int x] X (fun _ _ => False) (fun E Y => exN ["java/lang/IllegalArgumentException", "java/lang/IllegalStateException"] E (tyF x) ∧ Y = X) := by
  refine g_metX (cc := cX7_type) (maxL := 2) (ret := (some .int)) (by decide) rfl (Nat.le_of_ble_eq_true rfl) ?_
  intro p e s m below meth c ls C hr hlk hex hW hl
  have hx := C.1.1
  have hb := C.1.2.1
  have hS : va_S (Ab G) s.heap s.heap [] := va_S.rf
  have hl : lv_has ls 2 [(0, .ref (ad G 715)), (1, .int x)] := hl
  refine lv_iload_n hx hb dX7_type_0 rfl (lv_at hl 1 rfl) ?_
  refine lv_bipush (v := 32) hx hb dX7_type_1 (by decide) ?_
  refine lv_icmp_lt (tgt := 12) hx hb dX7_type_3 (by decide) (fun b_1 => ?_) (fun b_1 => ?_)
  · exact g_thr0 C hst (ik := 105) (ic := 107) (names := ["java/lang/RuntimeException", "java/lang/Exception"]) hex hlk hl.1 (by decide) (by decide) (mc qk_IAE) (mc qi_IAE) (fun w hw => mc (qg_IAE w hw)) qn_IAE nest_on qo_IAE dX7_type_12 dX7_type_15 dX7_type_16 dX7_type_19 (Nat.le_of_ble_eq_true rfl) (Nat.le_of_ble_eq_true rfl) (by decide) (by decide) (by decide) (by decide) hW hS (by first | exact ⟨⟨0, rfl, by simp only [tyE, tyF, b_1, if_true, if_false]⟩, rfl⟩ | exact ⟨⟨0, rfl, by simp only [tyE, tyF, ex9, ey9, if_true, if_false]⟩, rfl⟩)
  · refine lv_iload_n hx hb dX7_type_6 rfl (lv_at hl 1 rfl) ?_
    refine lv_bipush (v := 126) hx hb dX7_type_7 (by decide) ?_
    refine lv_icmp_le (tgt := 20) hx hb dX7_type_9 (by decide) (fun b_2 => ?_) (fun b_2 => ?_)
    · have ex9 := b_1
      have ey9 := b_2
      obtain ⟨ch, hc1, hc2, rfl⟩ := jtyp b_1 b_2
      refine lv_aload_n hx hb dX7_type_20 rfl (lv_at hl 0 rfl) ?_
      refine gF_script C hW (hwc hwX7) (mc qw_291) dX7_type_21 ?_
      refine lv_iload_n hx hb dX7_type_24 rfl (lv_at hl 1 rfl) ?_
      refine g_calli (va_runV (As := [.int (nI ch)]) (rest := []) C.1 (cX5_append0_ok l G X eL ch (show ch < 128 by omega)) (cwV 1 C.1.2.2.2.2 (gV qw_1344 qw_1345 qw_1346 qw_76 qw_1347) rfl rfl rfl (by decide +kernel) ⟨Nat.le_of_ble_eq_true rfl, Nat.le_of_ble_eq_true rfl⟩) (g_rScript C hW hS [.int (nI ch)]) rfl rfl hl.1 rfl (lv_room (Nat.le_of_ble_eq_true rfl)) dX7_type_25 ⟨by decide, by decide⟩) hS (fun r_4 Y_5 H_6 locs_7 hW_8 hS_9 h_3 => ?_)
      obtain ⟨h_10, h_3⟩ := h_3
      subst h_10
      replace h_3 := h_3.symm
      subst h_3
      refine lv_if_ne (tgt := 39) hx hb dX7_type_28 (by decide) (fun h9 => absurd h9 (by decide)) (fun _ => ?_)
      exact g_thr0 C hst (ik := 111) (ic := 113) (names := ["java/lang/RuntimeException", "java/lang/Exception"]) hex hlk hl.1 (by decide) (by decide) (mc qk_ISE) (mc qi_ISE) (fun w hw => mc (qg_ISE w hw)) qn_ISE nest_on qo_ISE dX7_type_31 dX7_type_34 dX7_type_35 dX7_type_38 (Nat.le_of_ble_eq_true rfl) (Nat.le_of_ble_eq_true rfl) (by decide) (by decide) (by decide) (by decide) hW_8 hS_9 (by first | exact ⟨⟨1, rfl, by simp only [tyE, tyF, b_1, b_2, if_true, if_false]⟩, rfl⟩ | exact ⟨⟨1, rfl, by simp only [tyE, tyF, ex9, ey9, if_true, if_false]⟩, rfl⟩)
    · exact g_thr0 C hst (ik := 105) (ic := 107) (names := ["java/lang/RuntimeException", "java/lang/Exception"]) hex hlk hl.1 (by decide) (by decide) (mc qk_IAE) (mc qi_IAE) (fun w hw => mc (qg_IAE w hw)) qn_IAE nest_on qo_IAE dX7_type_12 dX7_type_15 dX7_type_16 dX7_type_19 (Nat.le_of_ble_eq_true rfl) (Nat.le_of_ble_eq_true rfl) (by decide) (by decide) (by decide) (by decide) hW hS (by first | exact ⟨⟨0, rfl, by simp only [tyE, tyF, b_1, b_2, if_true, if_false]⟩, rfl⟩ | exact ⟨⟨0, rfl, by simp only [tyE, tyF, ex9, ey9, if_true, if_false]⟩, rfl⟩)

set_option maxHeartbeats 4000000 in
set_option maxRecDepth 100000 in
theorem cX7_performScript1_ok (l : Launch) (G : GT) (X : St) (hi : PInv (X.1 0)) (sp : Nat) (hsp : sp < 9) (es : X.1 11 3 = nI sp) (cn : Nat) (hcn : cn ≤ 8) (ec : X.1 11 4 = nI cn) (mm : Nat) (hm : mm ≤ 60) (em : X.1 11 7 = nI mm) (hcm : ∀ i, i < mm → ∃ c, c < 10 ∧ X.1 13 i = nI (c + 1)) (hok : (psL (X.1 13) (X.1 14) mm 0 (X.1 0)).1 = -1) : MetI l G yX7_performScript (wsG yX7_performScript cX7_performScript 3 (some .int)) (rmz 41 424) [.ref (ad G 715)] X (fun res Y => res = -1 ∧ Y = setRow (setRow (setRow X (sp + 1) (cpPlantR (X.1 (sp + 1)) (X.1 0))) 0 (psL (X.1 13) (X.1 14) mm 0 (X.1 0)).2) 11 (keepR (X.1 11) sp cn)) := by
  refine g_met (cc := cX7_performScript) (maxL := 3) (ret := (some .int)) (by decide) rfl (Nat.le_of_ble_eq_true rfl) ?_
  intro p e s m below meth c ls C hr hlk hnm hW hl
  have hx := C.1.1
  have hb := C.1.2.1
  have hS : va_S (Ab G) s.heap s.heap [] := va_S.rf
  have hl : lv_has ls 3 [(0, .ref (ad G 715))] := hl
  refine lv_aload_n hx hb dX7_performScript_0 rfl (lv_at hl 0 rfl) ?_
  refine gF_history C hW (hwc hwX7) (mc qw_288) dX7_performScript_1 ?_
  refine lv_aload_n hx hb dX7_performScript_4 rfl (lv_at hl 0 rfl) ?_
  refine gF_plant C hW (hwc hwX7) (mc qw_287) dX7_performScript_5 ?_
  refine g_callv (va_runV (As := [.ref (ad G 0)]) (rest := []) C.1 (cX2_note_ok l G X sp hsp es) (cwV 1 C.1.2.2.2.2 (gV qw_804 qw_805 qw_806 qw_75 qw_807) rfl rfl rfl (by decide +kernel) ⟨Nat.le_of_ble_eq_true rfl, Nat.le_of_ble_eq_true rfl⟩) (g_rHist C hW hS [.ref (ad G 0)]) rfl rfl hl.1 rfl (lv_room (Nat.le_of_ble_eq_true rfl)) dX7_performScript_8 ⟨Nat.zero_le _, Nat.zero_le _⟩) hS (fun Y_2 H_3 locs_4 hW_5 hS_6 h_1 => ?_)
  obtain ⟨w_7, ew_7⟩ : ∃ Z9, Z9 = cpPlantR (X.1 (sp + 1)) (X.1 0) := ⟨_, rfl⟩
  have hW_8 : Wd G (setRow X (sp + 1) w_7) H_3 := Wd.cast (by rw [h_1, ew_7]) hW_5
  refine lv_iconst (v := 0) hx hb dX7_performScript_11 (by decide) ?_
  refine lv_istore_n (lv' := [(1, .int 0), (0, .ref (ad G 715))]) hx hb dX7_performScript_12 rfl hl (by decide) rfl (fun ls_9 hl_10 => ?_)
  have loop : ∀ (q : Nat) (kk : Nat) (zz : Nat → Int32) (H : Heap) (locs : List Loc) (ls : Array Slot), kk + q = mm → PInv zz → psL (X.1 13) (X.1 14) q kk zz = psL (X.1 13) (X.1 14) mm 0 (X.1 0) → Wd G (setRow (setRow X (sp + 1) (cpPlantR (X.1 (sp + 1)) (X.1 0))) 0 zz) H → va_S (Ab G) s.heap H locs → lv_has ls 3 [(1, .int (nI kk)), (0, .ref (ad G 715))] → W p l e (rmz 41 424) s m ([.ref (ad G 715)] : List Value).toArray below meth c H locs 0 0 (MQ below (Ki G (fun res Y => res = -1 ∧ Y = setRow (setRow (setRow X (sp + 1) (cpPlantR (X.1 (sp + 1)) (X.1 0))) 0 (psL (X.1 13) (X.1 14) mm 0 (X.1 0)).2) 11 (keepR (X.1 11) sp cn))) ([.ref (ad G 715)] : List Value).toArray s 0 0 (Ab G)) (F0 m 13 ls []) := by
    intro q
    induction q with
    | zero =>
      intro kk zz H locs ls hq hz hf hW hS hl
      refine lv_iload_n hx hb dX7_performScript_13 rfl (lv_at hl 0 rfl) ?_
      refine lv_aload_n hx hb dX7_performScript_14 rfl (lv_at hl 1 rfl) ?_
      refine gF_script C hW (hwc hwX7) (mc qw_291) dX7_performScript_15 ?_
      refine gSc_commandCountN C hW (hwc hwX5) nw_15 dX7_performScript_18 ?_
      refine g_top (y := X.1 11 (7)) (congrFun (rd_in (by decide) (rd_in (by omega) rfl)) _) ?_
      refine g_top (y := nI mm) em ?_
      refine lv_icmp_ge (tgt := 81) hx hb dX7_performScript_21 (by decide) (fun _ => ?_) (fun h9 => absurd ((nI_leI (a := mm) (b := kk) (by omega) (by omega)).mpr (by omega)) h9)
      refine lv_aload_n hx hb dX7_performScript_81 rfl (lv_at hl 1 rfl) ?_
      refine gF_history C hW (hwc hwX7) (mc qw_288) dX7_performScript_82 ?_
      refine g_callv (va_runV (As := []) (rest := []) C.1 (cX2_keep_ok l G (setRow (setRow X (sp + 1) (cpPlantR (X.1 (sp + 1)) (X.1 0))) 0 zz) sp hsp ((congrFun (rd_in (by decide) (rd_in (by omega) rfl)) _).trans es) cn hcn ((congrFun (rd_in (by decide) (rd_in (by omega) rfl)) _).trans ec)) (cwV 0 C.1.2.2.2.2 (gV qw_983 qw_984 qw_985 qw_75 qw_986) rfl rfl rfl (by decide +kernel) ⟨Nat.le_of_ble_eq_true rfl, Nat.le_of_ble_eq_true rfl⟩) (g_rHist C hW hS []) rfl rfl hl.1 rfl (lv_room (Nat.le_of_ble_eq_true rfl)) dX7_performScript_85 ⟨Nat.zero_le _, Nat.zero_le _⟩) hS (fun Y_12 H_13 locs_14 hW_15 hS_16 h_11 => ?_)
      obtain ⟨w_17, ew_17⟩ : ∃ Z9, Z9 = keepR (X.1 11) sp cn := ⟨_, rfl⟩
      have kn_18 : w_17 (7) = nI mm := by rw [ew_17]; exact (kp_keepR (by omega)).trans em
      have hW_19 : Wd G (setRow (setRow (setRow X (sp + 1) (cpPlantR (X.1 (sp + 1)) (X.1 0))) 0 zz) 11 w_17) H_13 := Wd.cast (by rw [h_11, ew_17]; exact (congrArg (fun Z9 => setRow (setRow (setRow X (sp + 1) (cpPlantR (X.1 (sp + 1)) (X.1 0))) 0 zz) 11 (keepR Z9 sp cn)) (rd_in (by decide) (rd_in (by omega) rfl)))) hW_15
      refine lv_iconst (v := (-1)) hx hb dX7_performScript_88 (by decide) ?_
      exact g_iret C hr hlk hW_19 hS_16 dX7_performScript_89 (by subst ew_17; exact ⟨rfl, by rw [← hf]; rfl⟩)
    | succ q ih =>
      intro kk zz H locs ls hq hz hf hW hS hl
      refine lv_iload_n hx hb dX7_performScript_13 rfl (lv_at hl 0 rfl) ?_
      refine lv_aload_n hx hb dX7_performScript_14 rfl (lv_at hl 1 rfl) ?_
      refine gF_script C hW (hwc hwX7) (mc qw_291) dX7_performScript_15 ?_
      refine gSc_commandCountN C hW (hwc hwX5) nw_15 dX7_performScript_18 ?_
      refine g_top (y := X.1 11 (7)) (congrFun (rd_in (by decide) (rd_in (by omega) rfl)) _) ?_
      refine g_top (y := nI mm) em ?_
      refine lv_icmp_ge (tgt := 81) hx hb dX7_performScript_21 (by decide) (fun h9 => absurd h9 (fun h8 => absurd ((nI_leI (a := mm) (b := kk) (by omega) (by omega)).mp h8) (by omega))) (fun _ => ?_)
      refine lv_aload_n hx hb dX7_performScript_24 rfl (lv_at hl 1 rfl) ?_
      refine gF_script C hW (hwc hwX7) (mc qw_291) dX7_performScript_25 ?_
      refine gSc_argumentsN C hW (hwc hwX5) nw_16 dX7_performScript_28 ?_
      refine lv_iload_n hx hb dX7_performScript_31 rfl (lv_at hl 0 rfl) ?_
      refine g_args C hW kk (nI_clamp (by omega)) (vp_in_nI (show kk < 60 by omega) (by decide)) dX7_performScript_32 ?_
      refine lv_astore_n (lv' := [(2, .ref (ad G (738 + kk))), (1, .int (nI kk)), (0, .ref (ad G 715))]) hx hb dX7_performScript_33 rfl hl (by decide) rfl (fun ls_20 hl_21 => ?_)
      refine lv_aload_n hx hb dX7_performScript_34 rfl (lv_at hl_21 2 rfl) ?_
      refine gF_plant C hW (hwc hwX7) (mc qw_287) dX7_performScript_35 ?_
      refine lv_aload_n hx hb dX7_performScript_38 rfl (lv_at hl_21 2 rfl) ?_
      refine gF_script C hW (hwc hwX7) (mc qw_291) dX7_performScript_39 ?_
      refine gSc_commandsN C hW (hwc hwX5) nw_17 dX7_performScript_42 ?_
      refine lv_iload_n hx hb dX7_performScript_45 rfl (lv_at hl_21 1 rfl) ?_
      obtain ⟨c9, hc9, ec9⟩ := hcm kk (by omega)
      have hcI : cmdI (X.1 13) kk = c9 := by rw [cmdI, ec9, clf (show c9 + 1 < 2 ^ 31 by omega)]; rfl
      refine g_cmdld C hW kk (nI_clamp (by omega)) (vp_in_nI (show kk < 60 by omega) (by decide)) hc9 ((congrFun (rd_in (by decide) (rd_in (by omega) rfl)) _).trans ec9) dX7_performScript_46 ?_
      rcases (show c9 = 0 ∨ c9 = 1 ∨ c9 = 2 ∨ c9 = 3 ∨ c9 = 4 ∨ c9 = 5 ∨ c9 = 6 ∨ c9 = 7 ∨ c9 = 8 ∨ c9 = 9 by omega) with rfl | rfl | rfl | rfl | rfl | rfl | rfl | rfl | rfl | rfl
      · refine lv_aload_n hx hb dX7_performScript_47 rfl (lv_at hl_21 0 rfl) ?_
        refine lv_iconst (v := 0) hx hb dX7_performScript_48 (by decide) ?_
        refine g_argld C hW (show kk < 60 by omega) 0 (by decide) (vlit (by decide)) dX7_performScript_49 ?_
        refine g_top (y := X.1 14 (3 * kk + 0)) (congrFun (rd_in (by decide) (rd_in (by omega) rfl)) _) ?_
        refine lv_aload_n hx hb dX7_performScript_50 rfl (lv_at hl_21 0 rfl) ?_
        refine lv_iconst (v := 1) hx hb dX7_performScript_51 (by decide) ?_
        refine g_argld C hW (show kk < 60 by omega) 1 (by decide) (vlit (by decide)) dX7_performScript_52 ?_
        refine g_top (y := X.1 14 (3 * kk + 1)) (congrFun (rd_in (by decide) (rd_in (by omega) rfl)) _) ?_
        refine lv_aload_n hx hb dX7_performScript_53 rfl (lv_at hl_21 0 rfl) ?_
        refine lv_iconst (v := 2) hx hb dX7_performScript_54 (by decide) ?_
        refine g_argld C hW (show kk < 60 by omega) 2 (by decide) (vlit (by decide)) dX7_performScript_55 ?_
        refine g_top (y := X.1 14 (3 * kk + 2)) (congrFun (rd_in (by decide) (rd_in (by omega) rfl)) _) ?_
        refine g_calli (va_runV (As := [.ref (cy G (20 + 0)), .int (X.1 14 (3 * kk + 0)), .int (X.1 14 (3 * kk + 1)), .int (X.1 14 (3 * kk + 2))]) (rest := []) C.1 (cX4_perform0_ok l G (setRow (setRow X (sp + 1) (cpPlantR (X.1 (sp + 1)) (X.1 0))) 0 zz) 0 h0_11 (show PInv ((setRow (setRow X (sp + 1) (cpPlantR (X.1 (sp + 1)) (X.1 0))) 0 zz).1 0) from by rw [show (setRow (setRow X (sp + 1) (cpPlantR (X.1 (sp + 1)) (X.1 0))) 0 zz).1 0 = zz from rd_out]; exact hz) (X.1 14 (3 * kk + 0)) (X.1 14 (3 * kk + 1)) (X.1 14 (3 * kk + 2))) (cwV 4 C.1.2.2.2.2 (gV qw_809 qw_810 qw_811 qw_72 qw_812) rfl rfl rfl (by decide +kernel) ⟨Nat.le_of_ble_eq_true rfl, Nat.le_of_ble_eq_true rfl⟩) (g_rPlant C hW hS h0_11 [.ref (cy G (20 + 0)), .int (X.1 14 (3 * kk + 0)), .int (X.1 14 (3 * kk + 1)), .int (X.1 14 (3 * kk + 2))]) rfl rfl hl_21.1 rfl (lv_room (Nat.le_of_ble_eq_true rfl)) dX7_performScript_56 ⟨Nat.zero_le _, Nat.zero_le _⟩) hS (fun r_23 Y_24 H_25 locs_26 hW_27 hS_28 h_22 => ?_)
        obtain ⟨h_29, h_22⟩ := h_22
        replace h_29 := h_29.trans (congrArg (fun Z9 => (performR 0 Z9 (X.1 14 (3 * kk + 0)) (X.1 14 (3 * kk + 1)) (X.1 14 (3 * kk + 2))).1) rd_out)
        subst h_29
        obtain ⟨w_30, ew_30⟩ : ∃ Z9, Z9 = (performR 0 zz (X.1 14 (3 * kk + 0)) (X.1 14 (3 * kk + 1)) (X.1 14 (3 * kk + 2))).2 := ⟨_, rfl⟩
        have hW_31 : Wd G (setRow (setRow X (sp + 1) (cpPlantR (X.1 (sp + 1)) (X.1 0))) 0 w_30) H_25 := Wd.cast (by rw [h_22, ew_30]; exact ((congrArg (fun Z9 => setRow (setRow (setRow X (sp + 1) (cpPlantR (X.1 (sp + 1)) (X.1 0))) 0 zz) 0 ((performR 0 Z9 (X.1 14 (3 * kk + 0)) (X.1 14 (3 * kk + 1)) (X.1 14 (3 * kk + 2))).2)) rd_out).trans sr_out)) hW_27
        refine lv_if_ge (tgt := 75) hx hb dX7_performScript_59 (by decide) (fun b_32 => ?_) (fun b_32 => ?_)
        · refine lv_iinc (v := nI (kk + 1)) (lv' := [(1, .int (nI (kk + 1))), (2, .ref (ad G (738 + kk))), (0, .ref (ad G 715))]) hx hb dX7_performScript_75 hl_21 (k := 1) rfl (nI_1 kk) (by decide) rfl (fun ls_33 hl_34 => ?_)
          refine lv_goto (tgt := 13) hx hb dX7_performScript_78 (by decide) ?_
          exact ih (kk + 1) w_30 H_25 locs_26 ls_33 (by omega) (by subst ew_30; exact perf_inv hz _) (by subst ew_30; rw [← hf, psL, hcI, if_pos b_32]) hW_31 hS_28 (lv_sub hl_34 [0, 2] rfl)
        · refine lv_aload_n hx hb dX7_performScript_62 rfl (lv_at hl_21 2 rfl) ?_
          refine gF_history C hW_31 (hwc hwX7) (mc qw_288) dX7_performScript_63 ?_
          refine lv_aload_n hx hb dX7_performScript_66 rfl (lv_at hl_21 2 rfl) ?_
          refine gF_plant C hW_31 (hwc hwX7) (mc qw_287) dX7_performScript_67 ?_
          refine g_callv (va_runV (As := [.ref (ad G 0)]) (rest := []) C.1 (cX2_takeBack_ok l G (setRow (setRow X (sp + 1) (cpPlantR (X.1 (sp + 1)) (X.1 0))) 0 w_30) sp hsp ((congrFun (rd_in (by decide) (rd_in (by omega) rfl)) _).trans es)) (cwV 1 C.1.2.2.2.2 (gV qw_1423 qw_1424 qw_1425 qw_75 qw_1426) rfl rfl rfl (by decide +kernel) ⟨Nat.le_of_ble_eq_true rfl, Nat.le_of_ble_eq_true rfl⟩) (g_rHist C hW_31 hS_28 [.ref (ad G 0)]) rfl rfl hl_21.1 rfl (lv_room (Nat.le_of_ble_eq_true rfl)) dX7_performScript_70 ⟨Nat.zero_le _, Nat.zero_le _⟩) hS_28 (fun Y_36 H_37 locs_38 hW_39 hS_40 h_35 => ?_)
          rw [show (setRow (setRow X (sp + 1) (cpPlantR (X.1 (sp + 1)) (X.1 0))) 0 w_30).1 (sp + 1) = cpPlantR (X.1 (sp + 1)) (X.1 0) from (rd_in (by omega) rd_out)] at h_35
          obtain ⟨w_41, ew_41⟩ : ∃ Z9, Z9 = cpPlantR w_30 (cpPlantR (X.1 (sp + 1)) (X.1 0)) := ⟨_, rfl⟩
          have hW_42 : Wd G (setRow (setRow X (sp + 1) (cpPlantR (X.1 (sp + 1)) (X.1 0))) 0 w_41) H_37 := Wd.cast (by rw [h_35, ew_41]; exact ((congrArg (fun Z9 => setRow (setRow (setRow X (sp + 1) (cpPlantR (X.1 (sp + 1)) (X.1 0))) 0 w_30) 0 (cpPlantR Z9 (cpPlantR (X.1 (sp + 1)) (X.1 0)))) rd_out).trans sr_out)) hW_39
          refine lv_iload_n hx hb dX7_performScript_73 rfl (lv_at hl_21 1 rfl) ?_
          exact g_iret C hr hlk hW_42 hS_40 dX7_performScript_74 (by exfalso; rw [← hf, psL, hcI, if_neg b_32] at hok; exact nI_nm1 (show kk < 2 ^ 31 by omega) hok)
      · refine lv_aload_n hx hb dX7_performScript_47 rfl (lv_at hl_21 0 rfl) ?_
        refine lv_iconst (v := 0) hx hb dX7_performScript_48 (by decide) ?_
        refine g_argld C hW (show kk < 60 by omega) 0 (by decide) (vlit (by decide)) dX7_performScript_49 ?_
        refine g_top (y := X.1 14 (3 * kk + 0)) (congrFun (rd_in (by decide) (rd_in (by omega) rfl)) _) ?_
        refine lv_aload_n hx hb dX7_performScript_50 rfl (lv_at hl_21 0 rfl) ?_
        refine lv_iconst (v := 1) hx hb dX7_performScript_51 (by decide) ?_
        refine g_argld C hW (show kk < 60 by omega) 1 (by decide) (vlit (by decide)) dX7_performScript_52 ?_
        refine g_top (y := X.1 14 (3 * kk + 1)) (congrFun (rd_in (by decide) (rd_in (by omega) rfl)) _) ?_
        refine lv_aload_n hx hb dX7_performScript_53 rfl (lv_at hl_21 0 rfl) ?_
        refine lv_iconst (v := 2) hx hb dX7_performScript_54 (by decide) ?_
        refine g_argld C hW (show kk < 60 by omega) 2 (by decide) (vlit (by decide)) dX7_performScript_55 ?_
        refine g_top (y := X.1 14 (3 * kk + 2)) (congrFun (rd_in (by decide) (rd_in (by omega) rfl)) _) ?_
        refine g_calli (va_runV (As := [.ref (cy G (20 + 1)), .int (X.1 14 (3 * kk + 0)), .int (X.1 14 (3 * kk + 1)), .int (X.1 14 (3 * kk + 2))]) (rest := []) C.1 (cX4_perform1_ok l G (setRow (setRow X (sp + 1) (cpPlantR (X.1 (sp + 1)) (X.1 0))) 0 zz) 0 h0_11 (show PInv ((setRow (setRow X (sp + 1) (cpPlantR (X.1 (sp + 1)) (X.1 0))) 0 zz).1 0) from by rw [show (setRow (setRow X (sp + 1) (cpPlantR (X.1 (sp + 1)) (X.1 0))) 0 zz).1 0 = zz from rd_out]; exact hz) (X.1 14 (3 * kk + 0)) (X.1 14 (3 * kk + 1)) (X.1 14 (3 * kk + 2))) (cwV 4 C.1.2.2.2.2 (gV qw_809 qw_810 qw_811 qw_72 qw_812) rfl rfl rfl (by decide +kernel) ⟨Nat.le_of_ble_eq_true rfl, Nat.le_of_ble_eq_true rfl⟩) (g_rPlant C hW hS h0_11 [.ref (cy G (20 + 1)), .int (X.1 14 (3 * kk + 0)), .int (X.1 14 (3 * kk + 1)), .int (X.1 14 (3 * kk + 2))]) rfl rfl hl_21.1 rfl (lv_room (Nat.le_of_ble_eq_true rfl)) dX7_performScript_56 ⟨Nat.zero_le _, Nat.zero_le _⟩) hS (fun r_44 Y_45 H_46 locs_47 hW_48 hS_49 h_43 => ?_)
        obtain ⟨h_50, h_43⟩ := h_43
        replace h_50 := h_50.trans (congrArg (fun Z9 => (performR 1 Z9 (X.1 14 (3 * kk + 0)) (X.1 14 (3 * kk + 1)) (X.1 14 (3 * kk + 2))).1) rd_out)
        subst h_50
        obtain ⟨w_51, ew_51⟩ : ∃ Z9, Z9 = (performR 1 zz (X.1 14 (3 * kk + 0)) (X.1 14 (3 * kk + 1)) (X.1 14 (3 * kk + 2))).2 := ⟨_, rfl⟩
        have hW_52 : Wd G (setRow (setRow X (sp + 1) (cpPlantR (X.1 (sp + 1)) (X.1 0))) 0 w_51) H_46 := Wd.cast (by rw [h_43, ew_51]; exact ((congrArg (fun Z9 => setRow (setRow (setRow X (sp + 1) (cpPlantR (X.1 (sp + 1)) (X.1 0))) 0 zz) 0 ((performR 1 Z9 (X.1 14 (3 * kk + 0)) (X.1 14 (3 * kk + 1)) (X.1 14 (3 * kk + 2))).2)) rd_out).trans sr_out)) hW_48
        refine lv_if_ge (tgt := 75) hx hb dX7_performScript_59 (by decide) (fun b_53 => ?_) (fun b_53 => ?_)
        · refine lv_iinc (v := nI (kk + 1)) (lv' := [(1, .int (nI (kk + 1))), (2, .ref (ad G (738 + kk))), (0, .ref (ad G 715))]) hx hb dX7_performScript_75 hl_21 (k := 1) rfl (nI_1 kk) (by decide) rfl (fun ls_54 hl_55 => ?_)
          refine lv_goto (tgt := 13) hx hb dX7_performScript_78 (by decide) ?_
          exact ih (kk + 1) w_51 H_46 locs_47 ls_54 (by omega) (by subst ew_51; exact perf_inv hz _) (by subst ew_51; rw [← hf, psL, hcI, if_pos b_53]) hW_52 hS_49 (lv_sub hl_55 [0, 2] rfl)
        · refine lv_aload_n hx hb dX7_performScript_62 rfl (lv_at hl_21 2 rfl) ?_
          refine gF_history C hW_52 (hwc hwX7) (mc qw_288) dX7_performScript_63 ?_
          refine lv_aload_n hx hb dX7_performScript_66 rfl (lv_at hl_21 2 rfl) ?_
          refine gF_plant C hW_52 (hwc hwX7) (mc qw_287) dX7_performScript_67 ?_
          refine g_callv (va_runV (As := [.ref (ad G 0)]) (rest := []) C.1 (cX2_takeBack_ok l G (setRow (setRow X (sp + 1) (cpPlantR (X.1 (sp + 1)) (X.1 0))) 0 w_51) sp hsp ((congrFun (rd_in (by decide) (rd_in (by omega) rfl)) _).trans es)) (cwV 1 C.1.2.2.2.2 (gV qw_1423 qw_1424 qw_1425 qw_75 qw_1426) rfl rfl rfl (by decide +kernel) ⟨Nat.le_of_ble_eq_true rfl, Nat.le_of_ble_eq_true rfl⟩) (g_rHist C hW_52 hS_49 [.ref (ad G 0)]) rfl rfl hl_21.1 rfl (lv_room (Nat.le_of_ble_eq_true rfl)) dX7_performScript_70 ⟨Nat.zero_le _, Nat.zero_le _⟩) hS_49 (fun Y_57 H_58 locs_59 hW_60 hS_61 h_56 => ?_)
          rw [show (setRow (setRow X (sp + 1) (cpPlantR (X.1 (sp + 1)) (X.1 0))) 0 w_51).1 (sp + 1) = cpPlantR (X.1 (sp + 1)) (X.1 0) from (rd_in (by omega) rd_out)] at h_56
          obtain ⟨w_62, ew_62⟩ : ∃ Z9, Z9 = cpPlantR w_51 (cpPlantR (X.1 (sp + 1)) (X.1 0)) := ⟨_, rfl⟩
          have hW_63 : Wd G (setRow (setRow X (sp + 1) (cpPlantR (X.1 (sp + 1)) (X.1 0))) 0 w_62) H_58 := Wd.cast (by rw [h_56, ew_62]; exact ((congrArg (fun Z9 => setRow (setRow (setRow X (sp + 1) (cpPlantR (X.1 (sp + 1)) (X.1 0))) 0 w_51) 0 (cpPlantR Z9 (cpPlantR (X.1 (sp + 1)) (X.1 0)))) rd_out).trans sr_out)) hW_60
          refine lv_iload_n hx hb dX7_performScript_73 rfl (lv_at hl_21 1 rfl) ?_
          exact g_iret C hr hlk hW_63 hS_61 dX7_performScript_74 (by exfalso; rw [← hf, psL, hcI, if_neg b_53] at hok; exact nI_nm1 (show kk < 2 ^ 31 by omega) hok)
      · refine lv_aload_n hx hb dX7_performScript_47 rfl (lv_at hl_21 0 rfl) ?_
        refine lv_iconst (v := 0) hx hb dX7_performScript_48 (by decide) ?_
        refine g_argld C hW (show kk < 60 by omega) 0 (by decide) (vlit (by decide)) dX7_performScript_49 ?_
        refine g_top (y := X.1 14 (3 * kk + 0)) (congrFun (rd_in (by decide) (rd_in (by omega) rfl)) _) ?_
        refine lv_aload_n hx hb dX7_performScript_50 rfl (lv_at hl_21 0 rfl) ?_
        refine lv_iconst (v := 1) hx hb dX7_performScript_51 (by decide) ?_
        refine g_argld C hW (show kk < 60 by omega) 1 (by decide) (vlit (by decide)) dX7_performScript_52 ?_
        refine g_top (y := X.1 14 (3 * kk + 1)) (congrFun (rd_in (by decide) (rd_in (by omega) rfl)) _) ?_
        refine lv_aload_n hx hb dX7_performScript_53 rfl (lv_at hl_21 0 rfl) ?_
        refine lv_iconst (v := 2) hx hb dX7_performScript_54 (by decide) ?_
        refine g_argld C hW (show kk < 60 by omega) 2 (by decide) (vlit (by decide)) dX7_performScript_55 ?_
        refine g_top (y := X.1 14 (3 * kk + 2)) (congrFun (rd_in (by decide) (rd_in (by omega) rfl)) _) ?_
        refine g_calli (va_runV (As := [.ref (cy G (20 + 2)), .int (X.1 14 (3 * kk + 0)), .int (X.1 14 (3 * kk + 1)), .int (X.1 14 (3 * kk + 2))]) (rest := []) C.1 (cX4_perform2_ok l G (setRow (setRow X (sp + 1) (cpPlantR (X.1 (sp + 1)) (X.1 0))) 0 zz) 0 h0_11 (show PInv ((setRow (setRow X (sp + 1) (cpPlantR (X.1 (sp + 1)) (X.1 0))) 0 zz).1 0) from by rw [show (setRow (setRow X (sp + 1) (cpPlantR (X.1 (sp + 1)) (X.1 0))) 0 zz).1 0 = zz from rd_out]; exact hz) (X.1 14 (3 * kk + 0)) (X.1 14 (3 * kk + 1)) (X.1 14 (3 * kk + 2))) (cwV 4 C.1.2.2.2.2 (gV qw_809 qw_810 qw_811 qw_72 qw_812) rfl rfl rfl (by decide +kernel) ⟨Nat.le_of_ble_eq_true rfl, Nat.le_of_ble_eq_true rfl⟩) (g_rPlant C hW hS h0_11 [.ref (cy G (20 + 2)), .int (X.1 14 (3 * kk + 0)), .int (X.1 14 (3 * kk + 1)), .int (X.1 14 (3 * kk + 2))]) rfl rfl hl_21.1 rfl (lv_room (Nat.le_of_ble_eq_true rfl)) dX7_performScript_56 ⟨Nat.zero_le _, Nat.zero_le _⟩) hS (fun r_65 Y_66 H_67 locs_68 hW_69 hS_70 h_64 => ?_)
        obtain ⟨h_71, h_64⟩ := h_64
        replace h_71 := h_71.trans (congrArg (fun Z9 => (performR 2 Z9 (X.1 14 (3 * kk + 0)) (X.1 14 (3 * kk + 1)) (X.1 14 (3 * kk + 2))).1) rd_out)
        subst h_71
        obtain ⟨w_72, ew_72⟩ : ∃ Z9, Z9 = (performR 2 zz (X.1 14 (3 * kk + 0)) (X.1 14 (3 * kk + 1)) (X.1 14 (3 * kk + 2))).2 := ⟨_, rfl⟩
        have hW_73 : Wd G (setRow (setRow X (sp + 1) (cpPlantR (X.1 (sp + 1)) (X.1 0))) 0 w_72) H_67 := Wd.cast (by rw [h_64, ew_72]; exact ((congrArg (fun Z9 => setRow (setRow (setRow X (sp + 1) (cpPlantR (X.1 (sp + 1)) (X.1 0))) 0 zz) 0 ((performR 2 Z9 (X.1 14 (3 * kk + 0)) (X.1 14 (3 * kk + 1)) (X.1 14 (3 * kk + 2))).2)) rd_out).trans sr_out)) hW_69
        refine lv_if_ge (tgt := 75) hx hb dX7_performScript_59 (by decide) (fun b_74 => ?_) (fun b_74 => ?_)
        · refine lv_iinc (v := nI (kk + 1)) (lv' := [(1, .int (nI (kk + 1))), (2, .ref (ad G (738 + kk))), (0, .ref (ad G 715))]) hx hb dX7_performScript_75 hl_21 (k := 1) rfl (nI_1 kk) (by decide) rfl (fun ls_75 hl_76 => ?_)
          refine lv_goto (tgt := 13) hx hb dX7_performScript_78 (by decide) ?_
          exact ih (kk + 1) w_72 H_67 locs_68 ls_75 (by omega) (by subst ew_72; exact perf_inv hz _) (by subst ew_72; rw [← hf, psL, hcI, if_pos b_74]) hW_73 hS_70 (lv_sub hl_76 [0, 2] rfl)
        · refine lv_aload_n hx hb dX7_performScript_62 rfl (lv_at hl_21 2 rfl) ?_
          refine gF_history C hW_73 (hwc hwX7) (mc qw_288) dX7_performScript_63 ?_
          refine lv_aload_n hx hb dX7_performScript_66 rfl (lv_at hl_21 2 rfl) ?_
          refine gF_plant C hW_73 (hwc hwX7) (mc qw_287) dX7_performScript_67 ?_
          refine g_callv (va_runV (As := [.ref (ad G 0)]) (rest := []) C.1 (cX2_takeBack_ok l G (setRow (setRow X (sp + 1) (cpPlantR (X.1 (sp + 1)) (X.1 0))) 0 w_72) sp hsp ((congrFun (rd_in (by decide) (rd_in (by omega) rfl)) _).trans es)) (cwV 1 C.1.2.2.2.2 (gV qw_1423 qw_1424 qw_1425 qw_75 qw_1426) rfl rfl rfl (by decide +kernel) ⟨Nat.le_of_ble_eq_true rfl, Nat.le_of_ble_eq_true rfl⟩) (g_rHist C hW_73 hS_70 [.ref (ad G 0)]) rfl rfl hl_21.1 rfl (lv_room (Nat.le_of_ble_eq_true rfl)) dX7_performScript_70 ⟨Nat.zero_le _, Nat.zero_le _⟩) hS_70 (fun Y_78 H_79 locs_80 hW_81 hS_82 h_77 => ?_)
          rw [show (setRow (setRow X (sp + 1) (cpPlantR (X.1 (sp + 1)) (X.1 0))) 0 w_72).1 (sp + 1) = cpPlantR (X.1 (sp + 1)) (X.1 0) from (rd_in (by omega) rd_out)] at h_77
          obtain ⟨w_83, ew_83⟩ : ∃ Z9, Z9 = cpPlantR w_72 (cpPlantR (X.1 (sp + 1)) (X.1 0)) := ⟨_, rfl⟩
          have hW_84 : Wd G (setRow (setRow X (sp + 1) (cpPlantR (X.1 (sp + 1)) (X.1 0))) 0 w_83) H_79 := Wd.cast (by rw [h_77, ew_83]; exact ((congrArg (fun Z9 => setRow (setRow (setRow X (sp + 1) (cpPlantR (X.1 (sp + 1)) (X.1 0))) 0 w_72) 0 (cpPlantR Z9 (cpPlantR (X.1 (sp + 1)) (X.1 0)))) rd_out).trans sr_out)) hW_81
          refine lv_iload_n hx hb dX7_performScript_73 rfl (lv_at hl_21 1 rfl) ?_
          exact g_iret C hr hlk hW_84 hS_82 dX7_performScript_74 (by exfalso; rw [← hf, psL, hcI, if_neg b_74] at hok; exact nI_nm1 (show kk < 2 ^ 31 by omega) hok)
      · refine lv_aload_n hx hb dX7_performScript_47 rfl (lv_at hl_21 0 rfl) ?_
        refine lv_iconst (v := 0) hx hb dX7_performScript_48 (by decide) ?_
        refine g_argld C hW (show kk < 60 by omega) 0 (by decide) (vlit (by decide)) dX7_performScript_49 ?_
        refine g_top (y := X.1 14 (3 * kk + 0)) (congrFun (rd_in (by decide) (rd_in (by omega) rfl)) _) ?_
        refine lv_aload_n hx hb dX7_performScript_50 rfl (lv_at hl_21 0 rfl) ?_
        refine lv_iconst (v := 1) hx hb dX7_performScript_51 (by decide) ?_
        refine g_argld C hW (show kk < 60 by omega) 1 (by decide) (vlit (by decide)) dX7_performScript_52 ?_
        refine g_top (y := X.1 14 (3 * kk + 1)) (congrFun (rd_in (by decide) (rd_in (by omega) rfl)) _) ?_
        refine lv_aload_n hx hb dX7_performScript_53 rfl (lv_at hl_21 0 rfl) ?_
        refine lv_iconst (v := 2) hx hb dX7_performScript_54 (by decide) ?_
        refine g_argld C hW (show kk < 60 by omega) 2 (by decide) (vlit (by decide)) dX7_performScript_55 ?_
        refine g_top (y := X.1 14 (3 * kk + 2)) (congrFun (rd_in (by decide) (rd_in (by omega) rfl)) _) ?_
        refine g_calli (va_runV (As := [.ref (cy G (20 + 3)), .int (X.1 14 (3 * kk + 0)), .int (X.1 14 (3 * kk + 1)), .int (X.1 14 (3 * kk + 2))]) (rest := []) C.1 (cX4_perform3_ok l G (setRow (setRow X (sp + 1) (cpPlantR (X.1 (sp + 1)) (X.1 0))) 0 zz) 0 h0_11 (show PInv ((setRow (setRow X (sp + 1) (cpPlantR (X.1 (sp + 1)) (X.1 0))) 0 zz).1 0) from by rw [show (setRow (setRow X (sp + 1) (cpPlantR (X.1 (sp + 1)) (X.1 0))) 0 zz).1 0 = zz from rd_out]; exact hz) (X.1 14 (3 * kk + 0)) (X.1 14 (3 * kk + 1)) (X.1 14 (3 * kk + 2))) (cwV 4 C.1.2.2.2.2 (gV qw_809 qw_810 qw_811 qw_72 qw_812) rfl rfl rfl (by decide +kernel) ⟨Nat.le_of_ble_eq_true rfl, Nat.le_of_ble_eq_true rfl⟩) (g_rPlant C hW hS h0_11 [.ref (cy G (20 + 3)), .int (X.1 14 (3 * kk + 0)), .int (X.1 14 (3 * kk + 1)), .int (X.1 14 (3 * kk + 2))]) rfl rfl hl_21.1 rfl (lv_room (Nat.le_of_ble_eq_true rfl)) dX7_performScript_56 ⟨Nat.zero_le _, Nat.zero_le _⟩) hS (fun r_86 Y_87 H_88 locs_89 hW_90 hS_91 h_85 => ?_)
        obtain ⟨h_92, h_85⟩ := h_85
        replace h_92 := h_92.trans (congrArg (fun Z9 => (performR 3 Z9 (X.1 14 (3 * kk + 0)) (X.1 14 (3 * kk + 1)) (X.1 14 (3 * kk + 2))).1) rd_out)
        subst h_92
        obtain ⟨w_93, ew_93⟩ : ∃ Z9, Z9 = (performR 3 zz (X.1 14 (3 * kk + 0)) (X.1 14 (3 * kk + 1)) (X.1 14 (3 * kk + 2))).2 := ⟨_, rfl⟩
        have hW_94 : Wd G (setRow (setRow X (sp + 1) (cpPlantR (X.1 (sp + 1)) (X.1 0))) 0 w_93) H_88 := Wd.cast (by rw [h_85, ew_93]; exact ((congrArg (fun Z9 => setRow (setRow (setRow X (sp + 1) (cpPlantR (X.1 (sp + 1)) (X.1 0))) 0 zz) 0 ((performR 3 Z9 (X.1 14 (3 * kk + 0)) (X.1 14 (3 * kk + 1)) (X.1 14 (3 * kk + 2))).2)) rd_out).trans sr_out)) hW_90
        refine lv_if_ge (tgt := 75) hx hb dX7_performScript_59 (by decide) (fun b_95 => ?_) (fun b_95 => ?_)
        · refine lv_iinc (v := nI (kk + 1)) (lv' := [(1, .int (nI (kk + 1))), (2, .ref (ad G (738 + kk))), (0, .ref (ad G 715))]) hx hb dX7_performScript_75 hl_21 (k := 1) rfl (nI_1 kk) (by decide) rfl (fun ls_96 hl_97 => ?_)
          refine lv_goto (tgt := 13) hx hb dX7_performScript_78 (by decide) ?_
          exact ih (kk + 1) w_93 H_88 locs_89 ls_96 (by omega) (by subst ew_93; exact perf_inv hz _) (by subst ew_93; rw [← hf, psL, hcI, if_pos b_95]) hW_94 hS_91 (lv_sub hl_97 [0, 2] rfl)
        · refine lv_aload_n hx hb dX7_performScript_62 rfl (lv_at hl_21 2 rfl) ?_
          refine gF_history C hW_94 (hwc hwX7) (mc qw_288) dX7_performScript_63 ?_
          refine lv_aload_n hx hb dX7_performScript_66 rfl (lv_at hl_21 2 rfl) ?_
          refine gF_plant C hW_94 (hwc hwX7) (mc qw_287) dX7_performScript_67 ?_
          refine g_callv (va_runV (As := [.ref (ad G 0)]) (rest := []) C.1 (cX2_takeBack_ok l G (setRow (setRow X (sp + 1) (cpPlantR (X.1 (sp + 1)) (X.1 0))) 0 w_93) sp hsp ((congrFun (rd_in (by decide) (rd_in (by omega) rfl)) _).trans es)) (cwV 1 C.1.2.2.2.2 (gV qw_1423 qw_1424 qw_1425 qw_75 qw_1426) rfl rfl rfl (by decide +kernel) ⟨Nat.le_of_ble_eq_true rfl, Nat.le_of_ble_eq_true rfl⟩) (g_rHist C hW_94 hS_91 [.ref (ad G 0)]) rfl rfl hl_21.1 rfl (lv_room (Nat.le_of_ble_eq_true rfl)) dX7_performScript_70 ⟨Nat.zero_le _, Nat.zero_le _⟩) hS_91 (fun Y_99 H_100 locs_101 hW_102 hS_103 h_98 => ?_)
          rw [show (setRow (setRow X (sp + 1) (cpPlantR (X.1 (sp + 1)) (X.1 0))) 0 w_93).1 (sp + 1) = cpPlantR (X.1 (sp + 1)) (X.1 0) from (rd_in (by omega) rd_out)] at h_98
          obtain ⟨w_104, ew_104⟩ : ∃ Z9, Z9 = cpPlantR w_93 (cpPlantR (X.1 (sp + 1)) (X.1 0)) := ⟨_, rfl⟩
          have hW_105 : Wd G (setRow (setRow X (sp + 1) (cpPlantR (X.1 (sp + 1)) (X.1 0))) 0 w_104) H_100 := Wd.cast (by rw [h_98, ew_104]; exact ((congrArg (fun Z9 => setRow (setRow (setRow X (sp + 1) (cpPlantR (X.1 (sp + 1)) (X.1 0))) 0 w_93) 0 (cpPlantR Z9 (cpPlantR (X.1 (sp + 1)) (X.1 0)))) rd_out).trans sr_out)) hW_102
          refine lv_iload_n hx hb dX7_performScript_73 rfl (lv_at hl_21 1 rfl) ?_
          exact g_iret C hr hlk hW_105 hS_103 dX7_performScript_74 (by exfalso; rw [← hf, psL, hcI, if_neg b_95] at hok; exact nI_nm1 (show kk < 2 ^ 31 by omega) hok)
      · refine lv_aload_n hx hb dX7_performScript_47 rfl (lv_at hl_21 0 rfl) ?_
        refine lv_iconst (v := 0) hx hb dX7_performScript_48 (by decide) ?_
        refine g_argld C hW (show kk < 60 by omega) 0 (by decide) (vlit (by decide)) dX7_performScript_49 ?_
        refine g_top (y := X.1 14 (3 * kk + 0)) (congrFun (rd_in (by decide) (rd_in (by omega) rfl)) _) ?_
        refine lv_aload_n hx hb dX7_performScript_50 rfl (lv_at hl_21 0 rfl) ?_
        refine lv_iconst (v := 1) hx hb dX7_performScript_51 (by decide) ?_
        refine g_argld C hW (show kk < 60 by omega) 1 (by decide) (vlit (by decide)) dX7_performScript_52 ?_
        refine g_top (y := X.1 14 (3 * kk + 1)) (congrFun (rd_in (by decide) (rd_in (by omega) rfl)) _) ?_
        refine lv_aload_n hx hb dX7_performScript_53 rfl (lv_at hl_21 0 rfl) ?_
        refine lv_iconst (v := 2) hx hb dX7_performScript_54 (by decide) ?_
        refine g_argld C hW (show kk < 60 by omega) 2 (by decide) (vlit (by decide)) dX7_performScript_55 ?_
        refine g_top (y := X.1 14 (3 * kk + 2)) (congrFun (rd_in (by decide) (rd_in (by omega) rfl)) _) ?_
        refine g_calli (va_runV (As := [.ref (cy G (20 + 4)), .int (X.1 14 (3 * kk + 0)), .int (X.1 14 (3 * kk + 1)), .int (X.1 14 (3 * kk + 2))]) (rest := []) C.1 (cX4_perform4_ok l G (setRow (setRow X (sp + 1) (cpPlantR (X.1 (sp + 1)) (X.1 0))) 0 zz) 0 h0_11 (show PInv ((setRow (setRow X (sp + 1) (cpPlantR (X.1 (sp + 1)) (X.1 0))) 0 zz).1 0) from by rw [show (setRow (setRow X (sp + 1) (cpPlantR (X.1 (sp + 1)) (X.1 0))) 0 zz).1 0 = zz from rd_out]; exact hz) (X.1 14 (3 * kk + 0)) (X.1 14 (3 * kk + 1)) (X.1 14 (3 * kk + 2))) (cwV 4 C.1.2.2.2.2 (gV qw_809 qw_810 qw_811 qw_72 qw_812) rfl rfl rfl (by decide +kernel) ⟨Nat.le_of_ble_eq_true rfl, Nat.le_of_ble_eq_true rfl⟩) (g_rPlant C hW hS h0_11 [.ref (cy G (20 + 4)), .int (X.1 14 (3 * kk + 0)), .int (X.1 14 (3 * kk + 1)), .int (X.1 14 (3 * kk + 2))]) rfl rfl hl_21.1 rfl (lv_room (Nat.le_of_ble_eq_true rfl)) dX7_performScript_56 ⟨Nat.zero_le _, Nat.zero_le _⟩) hS (fun r_107 Y_108 H_109 locs_110 hW_111 hS_112 h_106 => ?_)
        obtain ⟨h_113, h_106⟩ := h_106
        replace h_113 := h_113.trans (congrArg (fun Z9 => (performR 4 Z9 (X.1 14 (3 * kk + 0)) (X.1 14 (3 * kk + 1)) (X.1 14 (3 * kk + 2))).1) rd_out)
        subst h_113
        obtain ⟨w_114, ew_114⟩ : ∃ Z9, Z9 = (performR 4 zz (X.1 14 (3 * kk + 0)) (X.1 14 (3 * kk + 1)) (X.1 14 (3 * kk + 2))).2 := ⟨_, rfl⟩
        have hW_115 : Wd G (setRow (setRow X (sp + 1) (cpPlantR (X.1 (sp + 1)) (X.1 0))) 0 w_114) H_109 := Wd.cast (by rw [h_106, ew_114]; exact ((congrArg (fun Z9 => setRow (setRow (setRow X (sp + 1) (cpPlantR (X.1 (sp + 1)) (X.1 0))) 0 zz) 0 ((performR 4 Z9 (X.1 14 (3 * kk + 0)) (X.1 14 (3 * kk + 1)) (X.1 14 (3 * kk + 2))).2)) rd_out).trans sr_out)) hW_111
        refine lv_if_ge (tgt := 75) hx hb dX7_performScript_59 (by decide) (fun b_116 => ?_) (fun b_116 => ?_)
        · refine lv_iinc (v := nI (kk + 1)) (lv' := [(1, .int (nI (kk + 1))), (2, .ref (ad G (738 + kk))), (0, .ref (ad G 715))]) hx hb dX7_performScript_75 hl_21 (k := 1) rfl (nI_1 kk) (by decide) rfl (fun ls_117 hl_118 => ?_)
          refine lv_goto (tgt := 13) hx hb dX7_performScript_78 (by decide) ?_
          exact ih (kk + 1) w_114 H_109 locs_110 ls_117 (by omega) (by subst ew_114; exact perf_inv hz _) (by subst ew_114; rw [← hf, psL, hcI, if_pos b_116]) hW_115 hS_112 (lv_sub hl_118 [0, 2] rfl)
        · refine lv_aload_n hx hb dX7_performScript_62 rfl (lv_at hl_21 2 rfl) ?_
          refine gF_history C hW_115 (hwc hwX7) (mc qw_288) dX7_performScript_63 ?_
          refine lv_aload_n hx hb dX7_performScript_66 rfl (lv_at hl_21 2 rfl) ?_
          refine gF_plant C hW_115 (hwc hwX7) (mc qw_287) dX7_performScript_67 ?_
          refine g_callv (va_runV (As := [.ref (ad G 0)]) (rest := []) C.1 (cX2_takeBack_ok l G (setRow (setRow X (sp + 1) (cpPlantR (X.1 (sp + 1)) (X.1 0))) 0 w_114) sp hsp ((congrFun (rd_in (by decide) (rd_in (by omega) rfl)) _).trans es)) (cwV 1 C.1.2.2.2.2 (gV qw_1423 qw_1424 qw_1425 qw_75 qw_1426) rfl rfl rfl (by decide +kernel) ⟨Nat.le_of_ble_eq_true rfl, Nat.le_of_ble_eq_true rfl⟩) (g_rHist C hW_115 hS_112 [.ref (ad G 0)]) rfl rfl hl_21.1 rfl (lv_room (Nat.le_of_ble_eq_true rfl)) dX7_performScript_70 ⟨Nat.zero_le _, Nat.zero_le _⟩) hS_112 (fun Y_120 H_121 locs_122 hW_123 hS_124 h_119 => ?_)
          rw [show (setRow (setRow X (sp + 1) (cpPlantR (X.1 (sp + 1)) (X.1 0))) 0 w_114).1 (sp + 1) = cpPlantR (X.1 (sp + 1)) (X.1 0) from (rd_in (by omega) rd_out)] at h_119
          obtain ⟨w_125, ew_125⟩ : ∃ Z9, Z9 = cpPlantR w_114 (cpPlantR (X.1 (sp + 1)) (X.1 0)) := ⟨_, rfl⟩
          have hW_126 : Wd G (setRow (setRow X (sp + 1) (cpPlantR (X.1 (sp + 1)) (X.1 0))) 0 w_125) H_121 := Wd.cast (by rw [h_119, ew_125]; exact ((congrArg (fun Z9 => setRow (setRow (setRow X (sp + 1) (cpPlantR (X.1 (sp + 1)) (X.1 0))) 0 w_114) 0 (cpPlantR Z9 (cpPlantR (X.1 (sp + 1)) (X.1 0)))) rd_out).trans sr_out)) hW_123
          refine lv_iload_n hx hb dX7_performScript_73 rfl (lv_at hl_21 1 rfl) ?_
          exact g_iret C hr hlk hW_126 hS_124 dX7_performScript_74 (by exfalso; rw [← hf, psL, hcI, if_neg b_116] at hok; exact nI_nm1 (show kk < 2 ^ 31 by omega) hok)
      · refine lv_aload_n hx hb dX7_performScript_47 rfl (lv_at hl_21 0 rfl) ?_
        refine lv_iconst (v := 0) hx hb dX7_performScript_48 (by decide) ?_
        refine g_argld C hW (show kk < 60 by omega) 0 (by decide) (vlit (by decide)) dX7_performScript_49 ?_
        refine g_top (y := X.1 14 (3 * kk + 0)) (congrFun (rd_in (by decide) (rd_in (by omega) rfl)) _) ?_
        refine lv_aload_n hx hb dX7_performScript_50 rfl (lv_at hl_21 0 rfl) ?_
        refine lv_iconst (v := 1) hx hb dX7_performScript_51 (by decide) ?_
        refine g_argld C hW (show kk < 60 by omega) 1 (by decide) (vlit (by decide)) dX7_performScript_52 ?_
        refine g_top (y := X.1 14 (3 * kk + 1)) (congrFun (rd_in (by decide) (rd_in (by omega) rfl)) _) ?_
        refine lv_aload_n hx hb dX7_performScript_53 rfl (lv_at hl_21 0 rfl) ?_
        refine lv_iconst (v := 2) hx hb dX7_performScript_54 (by decide) ?_
        refine g_argld C hW (show kk < 60 by omega) 2 (by decide) (vlit (by decide)) dX7_performScript_55 ?_
        refine g_top (y := X.1 14 (3 * kk + 2)) (congrFun (rd_in (by decide) (rd_in (by omega) rfl)) _) ?_
        refine g_calli (va_runV (As := [.ref (cy G (20 + 5)), .int (X.1 14 (3 * kk + 0)), .int (X.1 14 (3 * kk + 1)), .int (X.1 14 (3 * kk + 2))]) (rest := []) C.1 (cX4_perform5_ok l G (setRow (setRow X (sp + 1) (cpPlantR (X.1 (sp + 1)) (X.1 0))) 0 zz) 0 h0_11 (show PInv ((setRow (setRow X (sp + 1) (cpPlantR (X.1 (sp + 1)) (X.1 0))) 0 zz).1 0) from by rw [show (setRow (setRow X (sp + 1) (cpPlantR (X.1 (sp + 1)) (X.1 0))) 0 zz).1 0 = zz from rd_out]; exact hz) (X.1 14 (3 * kk + 0)) (X.1 14 (3 * kk + 1)) (X.1 14 (3 * kk + 2))) (cwV 4 C.1.2.2.2.2 (gV qw_809 qw_810 qw_811 qw_72 qw_812) rfl rfl rfl (by decide +kernel) ⟨Nat.le_of_ble_eq_true rfl, Nat.le_of_ble_eq_true rfl⟩) (g_rPlant C hW hS h0_11 [.ref (cy G (20 + 5)), .int (X.1 14 (3 * kk + 0)), .int (X.1 14 (3 * kk + 1)), .int (X.1 14 (3 * kk + 2))]) rfl rfl hl_21.1 rfl (lv_room (Nat.le_of_ble_eq_true rfl)) dX7_performScript_56 ⟨Nat.zero_le _, Nat.zero_le _⟩) hS (fun r_128 Y_129 H_130 locs_131 hW_132 hS_133 h_127 => ?_)
        obtain ⟨h_134, h_127⟩ := h_127
        replace h_134 := h_134.trans (congrArg (fun Z9 => (performR 5 Z9 (X.1 14 (3 * kk + 0)) (X.1 14 (3 * kk + 1)) (X.1 14 (3 * kk + 2))).1) rd_out)
        subst h_134
        obtain ⟨w_135, ew_135⟩ : ∃ Z9, Z9 = (performR 5 zz (X.1 14 (3 * kk + 0)) (X.1 14 (3 * kk + 1)) (X.1 14 (3 * kk + 2))).2 := ⟨_, rfl⟩
        have hW_136 : Wd G (setRow (setRow X (sp + 1) (cpPlantR (X.1 (sp + 1)) (X.1 0))) 0 w_135) H_130 := Wd.cast (by rw [h_127, ew_135]; exact ((congrArg (fun Z9 => setRow (setRow (setRow X (sp + 1) (cpPlantR (X.1 (sp + 1)) (X.1 0))) 0 zz) 0 ((performR 5 Z9 (X.1 14 (3 * kk + 0)) (X.1 14 (3 * kk + 1)) (X.1 14 (3 * kk + 2))).2)) rd_out).trans sr_out)) hW_132
        refine lv_if_ge (tgt := 75) hx hb dX7_performScript_59 (by decide) (fun b_137 => ?_) (fun b_137 => ?_)
        · refine lv_iinc (v := nI (kk + 1)) (lv' := [(1, .int (nI (kk + 1))), (2, .ref (ad G (738 + kk))), (0, .ref (ad G 715))]) hx hb dX7_performScript_75 hl_21 (k := 1) rfl (nI_1 kk) (by decide) rfl (fun ls_138 hl_139 => ?_)
          refine lv_goto (tgt := 13) hx hb dX7_performScript_78 (by decide) ?_
          exact ih (kk + 1) w_135 H_130 locs_131 ls_138 (by omega) (by subst ew_135; exact perf_inv hz _) (by subst ew_135; rw [← hf, psL, hcI, if_pos b_137]) hW_136 hS_133 (lv_sub hl_139 [0, 2] rfl)
        · refine lv_aload_n hx hb dX7_performScript_62 rfl (lv_at hl_21 2 rfl) ?_
          refine gF_history C hW_136 (hwc hwX7) (mc qw_288) dX7_performScript_63 ?_
          refine lv_aload_n hx hb dX7_performScript_66 rfl (lv_at hl_21 2 rfl) ?_
          refine gF_plant C hW_136 (hwc hwX7) (mc qw_287) dX7_performScript_67 ?_
          refine g_callv (va_runV (As := [.ref (ad G 0)]) (rest := []) C.1 (cX2_takeBack_ok l G (setRow (setRow X (sp + 1) (cpPlantR (X.1 (sp + 1)) (X.1 0))) 0 w_135) sp hsp ((congrFun (rd_in (by decide) (rd_in (by omega) rfl)) _).trans es)) (cwV 1 C.1.2.2.2.2 (gV qw_1423 qw_1424 qw_1425 qw_75 qw_1426) rfl rfl rfl (by decide +kernel) ⟨Nat.le_of_ble_eq_true rfl, Nat.le_of_ble_eq_true rfl⟩) (g_rHist C hW_136 hS_133 [.ref (ad G 0)]) rfl rfl hl_21.1 rfl (lv_room (Nat.le_of_ble_eq_true rfl)) dX7_performScript_70 ⟨Nat.zero_le _, Nat.zero_le _⟩) hS_133 (fun Y_141 H_142 locs_143 hW_144 hS_145 h_140 => ?_)
          rw [show (setRow (setRow X (sp + 1) (cpPlantR (X.1 (sp + 1)) (X.1 0))) 0 w_135).1 (sp + 1) = cpPlantR (X.1 (sp + 1)) (X.1 0) from (rd_in (by omega) rd_out)] at h_140
          obtain ⟨w_146, ew_146⟩ : ∃ Z9, Z9 = cpPlantR w_135 (cpPlantR (X.1 (sp + 1)) (X.1 0)) := ⟨_, rfl⟩
          have hW_147 : Wd G (setRow (setRow X (sp + 1) (cpPlantR (X.1 (sp + 1)) (X.1 0))) 0 w_146) H_142 := Wd.cast (by rw [h_140, ew_146]; exact ((congrArg (fun Z9 => setRow (setRow (setRow X (sp + 1) (cpPlantR (X.1 (sp + 1)) (X.1 0))) 0 w_135) 0 (cpPlantR Z9 (cpPlantR (X.1 (sp + 1)) (X.1 0)))) rd_out).trans sr_out)) hW_144
          refine lv_iload_n hx hb dX7_performScript_73 rfl (lv_at hl_21 1 rfl) ?_
          exact g_iret C hr hlk hW_147 hS_145 dX7_performScript_74 (by exfalso; rw [← hf, psL, hcI, if_neg b_137] at hok; exact nI_nm1 (show kk < 2 ^ 31 by omega) hok)
      · refine lv_aload_n hx hb dX7_performScript_47 rfl (lv_at hl_21 0 rfl) ?_
        refine lv_iconst (v := 0) hx hb dX7_performScript_48 (by decide) ?_
        refine g_argld C hW (show kk < 60 by omega) 0 (by decide) (vlit (by decide)) dX7_performScript_49 ?_
        refine g_top (y := X.1 14 (3 * kk + 0)) (congrFun (rd_in (by decide) (rd_in (by omega) rfl)) _) ?_
        refine lv_aload_n hx hb dX7_performScript_50 rfl (lv_at hl_21 0 rfl) ?_
        refine lv_iconst (v := 1) hx hb dX7_performScript_51 (by decide) ?_
        refine g_argld C hW (show kk < 60 by omega) 1 (by decide) (vlit (by decide)) dX7_performScript_52 ?_
        refine g_top (y := X.1 14 (3 * kk + 1)) (congrFun (rd_in (by decide) (rd_in (by omega) rfl)) _) ?_
        refine lv_aload_n hx hb dX7_performScript_53 rfl (lv_at hl_21 0 rfl) ?_
        refine lv_iconst (v := 2) hx hb dX7_performScript_54 (by decide) ?_
        refine g_argld C hW (show kk < 60 by omega) 2 (by decide) (vlit (by decide)) dX7_performScript_55 ?_
        refine g_top (y := X.1 14 (3 * kk + 2)) (congrFun (rd_in (by decide) (rd_in (by omega) rfl)) _) ?_
        refine g_calli (va_runV (As := [.ref (cy G (20 + 6)), .int (X.1 14 (3 * kk + 0)), .int (X.1 14 (3 * kk + 1)), .int (X.1 14 (3 * kk + 2))]) (rest := []) C.1 (cX4_perform6_ok l G (setRow (setRow X (sp + 1) (cpPlantR (X.1 (sp + 1)) (X.1 0))) 0 zz) 0 h0_11 (show PInv ((setRow (setRow X (sp + 1) (cpPlantR (X.1 (sp + 1)) (X.1 0))) 0 zz).1 0) from by rw [show (setRow (setRow X (sp + 1) (cpPlantR (X.1 (sp + 1)) (X.1 0))) 0 zz).1 0 = zz from rd_out]; exact hz) (X.1 14 (3 * kk + 0)) (X.1 14 (3 * kk + 1)) (X.1 14 (3 * kk + 2))) (cwV 4 C.1.2.2.2.2 (gV qw_809 qw_810 qw_811 qw_72 qw_812) rfl rfl rfl (by decide +kernel) ⟨Nat.le_of_ble_eq_true rfl, Nat.le_of_ble_eq_true rfl⟩) (g_rPlant C hW hS h0_11 [.ref (cy G (20 + 6)), .int (X.1 14 (3 * kk + 0)), .int (X.1 14 (3 * kk + 1)), .int (X.1 14 (3 * kk + 2))]) rfl rfl hl_21.1 rfl (lv_room (Nat.le_of_ble_eq_true rfl)) dX7_performScript_56 ⟨Nat.zero_le _, Nat.zero_le _⟩) hS (fun r_149 Y_150 H_151 locs_152 hW_153 hS_154 h_148 => ?_)
        obtain ⟨h_155, h_148⟩ := h_148
        replace h_155 := h_155.trans (congrArg (fun Z9 => (performR 6 Z9 (X.1 14 (3 * kk + 0)) (X.1 14 (3 * kk + 1)) (X.1 14 (3 * kk + 2))).1) rd_out)
        subst h_155
        obtain ⟨w_156, ew_156⟩ : ∃ Z9, Z9 = (performR 6 zz (X.1 14 (3 * kk + 0)) (X.1 14 (3 * kk + 1)) (X.1 14 (3 * kk + 2))).2 := ⟨_, rfl⟩
        have hW_157 : Wd G (setRow (setRow X (sp + 1) (cpPlantR (X.1 (sp + 1)) (X.1 0))) 0 w_156) H_151 := Wd.cast (by rw [h_148, ew_156]; exact ((congrArg (fun Z9 => setRow (setRow (setRow X (sp + 1) (cpPlantR (X.1 (sp + 1)) (X.1 0))) 0 zz) 0 ((performR 6 Z9 (X.1 14 (3 * kk + 0)) (X.1 14 (3 * kk + 1)) (X.1 14 (3 * kk + 2))).2)) rd_out).trans sr_out)) hW_153
        refine lv_if_ge (tgt := 75) hx hb dX7_performScript_59 (by decide) (fun b_158 => ?_) (fun b_158 => ?_)
        · refine lv_iinc (v := nI (kk + 1)) (lv' := [(1, .int (nI (kk + 1))), (2, .ref (ad G (738 + kk))), (0, .ref (ad G 715))]) hx hb dX7_performScript_75 hl_21 (k := 1) rfl (nI_1 kk) (by decide) rfl (fun ls_159 hl_160 => ?_)
          refine lv_goto (tgt := 13) hx hb dX7_performScript_78 (by decide) ?_
          exact ih (kk + 1) w_156 H_151 locs_152 ls_159 (by omega) (by subst ew_156; exact perf_inv hz _) (by subst ew_156; rw [← hf, psL, hcI, if_pos b_158]) hW_157 hS_154 (lv_sub hl_160 [0, 2] rfl)
        · refine lv_aload_n hx hb dX7_performScript_62 rfl (lv_at hl_21 2 rfl) ?_
          refine gF_history C hW_157 (hwc hwX7) (mc qw_288) dX7_performScript_63 ?_
          refine lv_aload_n hx hb dX7_performScript_66 rfl (lv_at hl_21 2 rfl) ?_
          refine gF_plant C hW_157 (hwc hwX7) (mc qw_287) dX7_performScript_67 ?_
          refine g_callv (va_runV (As := [.ref (ad G 0)]) (rest := []) C.1 (cX2_takeBack_ok l G (setRow (setRow X (sp + 1) (cpPlantR (X.1 (sp + 1)) (X.1 0))) 0 w_156) sp hsp ((congrFun (rd_in (by decide) (rd_in (by omega) rfl)) _).trans es)) (cwV 1 C.1.2.2.2.2 (gV qw_1423 qw_1424 qw_1425 qw_75 qw_1426) rfl rfl rfl (by decide +kernel) ⟨Nat.le_of_ble_eq_true rfl, Nat.le_of_ble_eq_true rfl⟩) (g_rHist C hW_157 hS_154 [.ref (ad G 0)]) rfl rfl hl_21.1 rfl (lv_room (Nat.le_of_ble_eq_true rfl)) dX7_performScript_70 ⟨Nat.zero_le _, Nat.zero_le _⟩) hS_154 (fun Y_162 H_163 locs_164 hW_165 hS_166 h_161 => ?_)
          rw [show (setRow (setRow X (sp + 1) (cpPlantR (X.1 (sp + 1)) (X.1 0))) 0 w_156).1 (sp + 1) = cpPlantR (X.1 (sp + 1)) (X.1 0) from (rd_in (by omega) rd_out)] at h_161
          obtain ⟨w_167, ew_167⟩ : ∃ Z9, Z9 = cpPlantR w_156 (cpPlantR (X.1 (sp + 1)) (X.1 0)) := ⟨_, rfl⟩
          have hW_168 : Wd G (setRow (setRow X (sp + 1) (cpPlantR (X.1 (sp + 1)) (X.1 0))) 0 w_167) H_163 := Wd.cast (by rw [h_161, ew_167]; exact ((congrArg (fun Z9 => setRow (setRow (setRow X (sp + 1) (cpPlantR (X.1 (sp + 1)) (X.1 0))) 0 w_156) 0 (cpPlantR Z9 (cpPlantR (X.1 (sp + 1)) (X.1 0)))) rd_out).trans sr_out)) hW_165
          refine lv_iload_n hx hb dX7_performScript_73 rfl (lv_at hl_21 1 rfl) ?_
          exact g_iret C hr hlk hW_168 hS_166 dX7_performScript_74 (by exfalso; rw [← hf, psL, hcI, if_neg b_158] at hok; exact nI_nm1 (show kk < 2 ^ 31 by omega) hok)
      · refine lv_aload_n hx hb dX7_performScript_47 rfl (lv_at hl_21 0 rfl) ?_
        refine lv_iconst (v := 0) hx hb dX7_performScript_48 (by decide) ?_
        refine g_argld C hW (show kk < 60 by omega) 0 (by decide) (vlit (by decide)) dX7_performScript_49 ?_
        refine g_top (y := X.1 14 (3 * kk + 0)) (congrFun (rd_in (by decide) (rd_in (by omega) rfl)) _) ?_
        refine lv_aload_n hx hb dX7_performScript_50 rfl (lv_at hl_21 0 rfl) ?_
        refine lv_iconst (v := 1) hx hb dX7_performScript_51 (by decide) ?_
        refine g_argld C hW (show kk < 60 by omega) 1 (by decide) (vlit (by decide)) dX7_performScript_52 ?_
        refine g_top (y := X.1 14 (3 * kk + 1)) (congrFun (rd_in (by decide) (rd_in (by omega) rfl)) _) ?_
        refine lv_aload_n hx hb dX7_performScript_53 rfl (lv_at hl_21 0 rfl) ?_
        refine lv_iconst (v := 2) hx hb dX7_performScript_54 (by decide) ?_
        refine g_argld C hW (show kk < 60 by omega) 2 (by decide) (vlit (by decide)) dX7_performScript_55 ?_
        refine g_top (y := X.1 14 (3 * kk + 2)) (congrFun (rd_in (by decide) (rd_in (by omega) rfl)) _) ?_
        refine g_calli (va_runV (As := [.ref (cy G (20 + 7)), .int (X.1 14 (3 * kk + 0)), .int (X.1 14 (3 * kk + 1)), .int (X.1 14 (3 * kk + 2))]) (rest := []) C.1 (cX4_perform7_ok l G (setRow (setRow X (sp + 1) (cpPlantR (X.1 (sp + 1)) (X.1 0))) 0 zz) 0 h0_11 (show PInv ((setRow (setRow X (sp + 1) (cpPlantR (X.1 (sp + 1)) (X.1 0))) 0 zz).1 0) from by rw [show (setRow (setRow X (sp + 1) (cpPlantR (X.1 (sp + 1)) (X.1 0))) 0 zz).1 0 = zz from rd_out]; exact hz) (X.1 14 (3 * kk + 0)) (X.1 14 (3 * kk + 1)) (X.1 14 (3 * kk + 2))) (cwV 4 C.1.2.2.2.2 (gV qw_809 qw_810 qw_811 qw_72 qw_812) rfl rfl rfl (by decide +kernel) ⟨Nat.le_of_ble_eq_true rfl, Nat.le_of_ble_eq_true rfl⟩) (g_rPlant C hW hS h0_11 [.ref (cy G (20 + 7)), .int (X.1 14 (3 * kk + 0)), .int (X.1 14 (3 * kk + 1)), .int (X.1 14 (3 * kk + 2))]) rfl rfl hl_21.1 rfl (lv_room (Nat.le_of_ble_eq_true rfl)) dX7_performScript_56 ⟨Nat.zero_le _, Nat.zero_le _⟩) hS (fun r_170 Y_171 H_172 locs_173 hW_174 hS_175 h_169 => ?_)
        obtain ⟨h_176, h_169⟩ := h_169
        replace h_176 := h_176.trans (congrArg (fun Z9 => (performR 7 Z9 (X.1 14 (3 * kk + 0)) (X.1 14 (3 * kk + 1)) (X.1 14 (3 * kk + 2))).1) rd_out)
        subst h_176
        obtain ⟨w_177, ew_177⟩ : ∃ Z9, Z9 = (performR 7 zz (X.1 14 (3 * kk + 0)) (X.1 14 (3 * kk + 1)) (X.1 14 (3 * kk + 2))).2 := ⟨_, rfl⟩
        have hW_178 : Wd G (setRow (setRow X (sp + 1) (cpPlantR (X.1 (sp + 1)) (X.1 0))) 0 w_177) H_172 := Wd.cast (by rw [h_169, ew_177]; exact ((congrArg (fun Z9 => setRow (setRow (setRow X (sp + 1) (cpPlantR (X.1 (sp + 1)) (X.1 0))) 0 zz) 0 ((performR 7 Z9 (X.1 14 (3 * kk + 0)) (X.1 14 (3 * kk + 1)) (X.1 14 (3 * kk + 2))).2)) rd_out).trans sr_out)) hW_174
        refine lv_if_ge (tgt := 75) hx hb dX7_performScript_59 (by decide) (fun b_179 => ?_) (fun b_179 => ?_)
        · refine lv_iinc (v := nI (kk + 1)) (lv' := [(1, .int (nI (kk + 1))), (2, .ref (ad G (738 + kk))), (0, .ref (ad G 715))]) hx hb dX7_performScript_75 hl_21 (k := 1) rfl (nI_1 kk) (by decide) rfl (fun ls_180 hl_181 => ?_)
          refine lv_goto (tgt := 13) hx hb dX7_performScript_78 (by decide) ?_
          exact ih (kk + 1) w_177 H_172 locs_173 ls_180 (by omega) (by subst ew_177; exact perf_inv hz _) (by subst ew_177; rw [← hf, psL, hcI, if_pos b_179]) hW_178 hS_175 (lv_sub hl_181 [0, 2] rfl)
        · refine lv_aload_n hx hb dX7_performScript_62 rfl (lv_at hl_21 2 rfl) ?_
          refine gF_history C hW_178 (hwc hwX7) (mc qw_288) dX7_performScript_63 ?_
          refine lv_aload_n hx hb dX7_performScript_66 rfl (lv_at hl_21 2 rfl) ?_
          refine gF_plant C hW_178 (hwc hwX7) (mc qw_287) dX7_performScript_67 ?_
          refine g_callv (va_runV (As := [.ref (ad G 0)]) (rest := []) C.1 (cX2_takeBack_ok l G (setRow (setRow X (sp + 1) (cpPlantR (X.1 (sp + 1)) (X.1 0))) 0 w_177) sp hsp ((congrFun (rd_in (by decide) (rd_in (by omega) rfl)) _).trans es)) (cwV 1 C.1.2.2.2.2 (gV qw_1423 qw_1424 qw_1425 qw_75 qw_1426) rfl rfl rfl (by decide +kernel) ⟨Nat.le_of_ble_eq_true rfl, Nat.le_of_ble_eq_true rfl⟩) (g_rHist C hW_178 hS_175 [.ref (ad G 0)]) rfl rfl hl_21.1 rfl (lv_room (Nat.le_of_ble_eq_true rfl)) dX7_performScript_70 ⟨Nat.zero_le _, Nat.zero_le _⟩) hS_175 (fun Y_183 H_184 locs_185 hW_186 hS_187 h_182 => ?_)
          rw [show (setRow (setRow X (sp + 1) (cpPlantR (X.1 (sp + 1)) (X.1 0))) 0 w_177).1 (sp + 1) = cpPlantR (X.1 (sp + 1)) (X.1 0) from (rd_in (by omega) rd_out)] at h_182
          obtain ⟨w_188, ew_188⟩ : ∃ Z9, Z9 = cpPlantR w_177 (cpPlantR (X.1 (sp + 1)) (X.1 0)) := ⟨_, rfl⟩
          have hW_189 : Wd G (setRow (setRow X (sp + 1) (cpPlantR (X.1 (sp + 1)) (X.1 0))) 0 w_188) H_184 := Wd.cast (by rw [h_182, ew_188]; exact ((congrArg (fun Z9 => setRow (setRow (setRow X (sp + 1) (cpPlantR (X.1 (sp + 1)) (X.1 0))) 0 w_177) 0 (cpPlantR Z9 (cpPlantR (X.1 (sp + 1)) (X.1 0)))) rd_out).trans sr_out)) hW_186
          refine lv_iload_n hx hb dX7_performScript_73 rfl (lv_at hl_21 1 rfl) ?_
          exact g_iret C hr hlk hW_189 hS_187 dX7_performScript_74 (by exfalso; rw [← hf, psL, hcI, if_neg b_179] at hok; exact nI_nm1 (show kk < 2 ^ 31 by omega) hok)
      · refine lv_aload_n hx hb dX7_performScript_47 rfl (lv_at hl_21 0 rfl) ?_
        refine lv_iconst (v := 0) hx hb dX7_performScript_48 (by decide) ?_
        refine g_argld C hW (show kk < 60 by omega) 0 (by decide) (vlit (by decide)) dX7_performScript_49 ?_
        refine g_top (y := X.1 14 (3 * kk + 0)) (congrFun (rd_in (by decide) (rd_in (by omega) rfl)) _) ?_
        refine lv_aload_n hx hb dX7_performScript_50 rfl (lv_at hl_21 0 rfl) ?_
        refine lv_iconst (v := 1) hx hb dX7_performScript_51 (by decide) ?_
        refine g_argld C hW (show kk < 60 by omega) 1 (by decide) (vlit (by decide)) dX7_performScript_52 ?_
        refine g_top (y := X.1 14 (3 * kk + 1)) (congrFun (rd_in (by decide) (rd_in (by omega) rfl)) _) ?_
        refine lv_aload_n hx hb dX7_performScript_53 rfl (lv_at hl_21 0 rfl) ?_
        refine lv_iconst (v := 2) hx hb dX7_performScript_54 (by decide) ?_
        refine g_argld C hW (show kk < 60 by omega) 2 (by decide) (vlit (by decide)) dX7_performScript_55 ?_
        refine g_top (y := X.1 14 (3 * kk + 2)) (congrFun (rd_in (by decide) (rd_in (by omega) rfl)) _) ?_
        refine g_calli (va_runV (As := [.ref (cy G (20 + 8)), .int (X.1 14 (3 * kk + 0)), .int (X.1 14 (3 * kk + 1)), .int (X.1 14 (3 * kk + 2))]) (rest := []) C.1 (cX4_perform8_ok l G (setRow (setRow X (sp + 1) (cpPlantR (X.1 (sp + 1)) (X.1 0))) 0 zz) 0 h0_11 (show PInv ((setRow (setRow X (sp + 1) (cpPlantR (X.1 (sp + 1)) (X.1 0))) 0 zz).1 0) from by rw [show (setRow (setRow X (sp + 1) (cpPlantR (X.1 (sp + 1)) (X.1 0))) 0 zz).1 0 = zz from rd_out]; exact hz) (X.1 14 (3 * kk + 0)) (X.1 14 (3 * kk + 1)) (X.1 14 (3 * kk + 2))) (cwV 4 C.1.2.2.2.2 (gV qw_809 qw_810 qw_811 qw_72 qw_812) rfl rfl rfl (by decide +kernel) ⟨Nat.le_of_ble_eq_true rfl, Nat.le_of_ble_eq_true rfl⟩) (g_rPlant C hW hS h0_11 [.ref (cy G (20 + 8)), .int (X.1 14 (3 * kk + 0)), .int (X.1 14 (3 * kk + 1)), .int (X.1 14 (3 * kk + 2))]) rfl rfl hl_21.1 rfl (lv_room (Nat.le_of_ble_eq_true rfl)) dX7_performScript_56 ⟨Nat.zero_le _, Nat.zero_le _⟩) hS (fun r_191 Y_192 H_193 locs_194 hW_195 hS_196 h_190 => ?_)
        obtain ⟨h_197, h_190⟩ := h_190
        replace h_197 := h_197.trans (congrArg (fun Z9 => (performR 8 Z9 (X.1 14 (3 * kk + 0)) (X.1 14 (3 * kk + 1)) (X.1 14 (3 * kk + 2))).1) rd_out)
        subst h_197
        obtain ⟨w_198, ew_198⟩ : ∃ Z9, Z9 = (performR 8 zz (X.1 14 (3 * kk + 0)) (X.1 14 (3 * kk + 1)) (X.1 14 (3 * kk + 2))).2 := ⟨_, rfl⟩
        have hW_199 : Wd G (setRow (setRow X (sp + 1) (cpPlantR (X.1 (sp + 1)) (X.1 0))) 0 w_198) H_193 := Wd.cast (by rw [h_190, ew_198]; exact ((congrArg (fun Z9 => setRow (setRow (setRow X (sp + 1) (cpPlantR (X.1 (sp + 1)) (X.1 0))) 0 zz) 0 ((performR 8 Z9 (X.1 14 (3 * kk + 0)) (X.1 14 (3 * kk + 1)) (X.1 14 (3 * kk + 2))).2)) rd_out).trans sr_out)) hW_195
        refine lv_if_ge (tgt := 75) hx hb dX7_performScript_59 (by decide) (fun b_200 => ?_) (fun b_200 => ?_)
        · refine lv_iinc (v := nI (kk + 1)) (lv' := [(1, .int (nI (kk + 1))), (2, .ref (ad G (738 + kk))), (0, .ref (ad G 715))]) hx hb dX7_performScript_75 hl_21 (k := 1) rfl (nI_1 kk) (by decide) rfl (fun ls_201 hl_202 => ?_)
          refine lv_goto (tgt := 13) hx hb dX7_performScript_78 (by decide) ?_
          exact ih (kk + 1) w_198 H_193 locs_194 ls_201 (by omega) (by subst ew_198; exact perf_inv hz _) (by subst ew_198; rw [← hf, psL, hcI, if_pos b_200]) hW_199 hS_196 (lv_sub hl_202 [0, 2] rfl)
        · refine lv_aload_n hx hb dX7_performScript_62 rfl (lv_at hl_21 2 rfl) ?_
          refine gF_history C hW_199 (hwc hwX7) (mc qw_288) dX7_performScript_63 ?_
          refine lv_aload_n hx hb dX7_performScript_66 rfl (lv_at hl_21 2 rfl) ?_
          refine gF_plant C hW_199 (hwc hwX7) (mc qw_287) dX7_performScript_67 ?_
          refine g_callv (va_runV (As := [.ref (ad G 0)]) (rest := []) C.1 (cX2_takeBack_ok l G (setRow (setRow X (sp + 1) (cpPlantR (X.1 (sp + 1)) (X.1 0))) 0 w_198) sp hsp ((congrFun (rd_in (by decide) (rd_in (by omega) rfl)) _).trans es)) (cwV 1 C.1.2.2.2.2 (gV qw_1423 qw_1424 qw_1425 qw_75 qw_1426) rfl rfl rfl (by decide +kernel) ⟨Nat.le_of_ble_eq_true rfl, Nat.le_of_ble_eq_true rfl⟩) (g_rHist C hW_199 hS_196 [.ref (ad G 0)]) rfl rfl hl_21.1 rfl (lv_room (Nat.le_of_ble_eq_true rfl)) dX7_performScript_70 ⟨Nat.zero_le _, Nat.zero_le _⟩) hS_196 (fun Y_204 H_205 locs_206 hW_207 hS_208 h_203 => ?_)
          rw [show (setRow (setRow X (sp + 1) (cpPlantR (X.1 (sp + 1)) (X.1 0))) 0 w_198).1 (sp + 1) = cpPlantR (X.1 (sp + 1)) (X.1 0) from (rd_in (by omega) rd_out)] at h_203
          obtain ⟨w_209, ew_209⟩ : ∃ Z9, Z9 = cpPlantR w_198 (cpPlantR (X.1 (sp + 1)) (X.1 0)) := ⟨_, rfl⟩
          have hW_210 : Wd G (setRow (setRow X (sp + 1) (cpPlantR (X.1 (sp + 1)) (X.1 0))) 0 w_209) H_205 := Wd.cast (by rw [h_203, ew_209]; exact ((congrArg (fun Z9 => setRow (setRow (setRow X (sp + 1) (cpPlantR (X.1 (sp + 1)) (X.1 0))) 0 w_198) 0 (cpPlantR Z9 (cpPlantR (X.1 (sp + 1)) (X.1 0)))) rd_out).trans sr_out)) hW_207
          refine lv_iload_n hx hb dX7_performScript_73 rfl (lv_at hl_21 1 rfl) ?_
          exact g_iret C hr hlk hW_210 hS_208 dX7_performScript_74 (by exfalso; rw [← hf, psL, hcI, if_neg b_200] at hok; exact nI_nm1 (show kk < 2 ^ 31 by omega) hok)
      · refine lv_aload_n hx hb dX7_performScript_47 rfl (lv_at hl_21 0 rfl) ?_
        refine lv_iconst (v := 0) hx hb dX7_performScript_48 (by decide) ?_
        refine g_argld C hW (show kk < 60 by omega) 0 (by decide) (vlit (by decide)) dX7_performScript_49 ?_
        refine g_top (y := X.1 14 (3 * kk + 0)) (congrFun (rd_in (by decide) (rd_in (by omega) rfl)) _) ?_
        refine lv_aload_n hx hb dX7_performScript_50 rfl (lv_at hl_21 0 rfl) ?_
        refine lv_iconst (v := 1) hx hb dX7_performScript_51 (by decide) ?_
        refine g_argld C hW (show kk < 60 by omega) 1 (by decide) (vlit (by decide)) dX7_performScript_52 ?_
        refine g_top (y := X.1 14 (3 * kk + 1)) (congrFun (rd_in (by decide) (rd_in (by omega) rfl)) _) ?_
        refine lv_aload_n hx hb dX7_performScript_53 rfl (lv_at hl_21 0 rfl) ?_
        refine lv_iconst (v := 2) hx hb dX7_performScript_54 (by decide) ?_
        refine g_argld C hW (show kk < 60 by omega) 2 (by decide) (vlit (by decide)) dX7_performScript_55 ?_
        refine g_top (y := X.1 14 (3 * kk + 2)) (congrFun (rd_in (by decide) (rd_in (by omega) rfl)) _) ?_
        refine g_calli (va_runV (As := [.ref (cy G (20 + 9)), .int (X.1 14 (3 * kk + 0)), .int (X.1 14 (3 * kk + 1)), .int (X.1 14 (3 * kk + 2))]) (rest := []) C.1 (cX4_perform9_ok l G (setRow (setRow X (sp + 1) (cpPlantR (X.1 (sp + 1)) (X.1 0))) 0 zz) 0 h0_11 (show PInv ((setRow (setRow X (sp + 1) (cpPlantR (X.1 (sp + 1)) (X.1 0))) 0 zz).1 0) from by rw [show (setRow (setRow X (sp + 1) (cpPlantR (X.1 (sp + 1)) (X.1 0))) 0 zz).1 0 = zz from rd_out]; exact hz) (X.1 14 (3 * kk + 0)) (X.1 14 (3 * kk + 1)) (X.1 14 (3 * kk + 2))) (cwV 4 C.1.2.2.2.2 (gV qw_809 qw_810 qw_811 qw_72 qw_812) rfl rfl rfl (by decide +kernel) ⟨Nat.le_of_ble_eq_true rfl, Nat.le_of_ble_eq_true rfl⟩) (g_rPlant C hW hS h0_11 [.ref (cy G (20 + 9)), .int (X.1 14 (3 * kk + 0)), .int (X.1 14 (3 * kk + 1)), .int (X.1 14 (3 * kk + 2))]) rfl rfl hl_21.1 rfl (lv_room (Nat.le_of_ble_eq_true rfl)) dX7_performScript_56 ⟨Nat.zero_le _, Nat.zero_le _⟩) hS (fun r_212 Y_213 H_214 locs_215 hW_216 hS_217 h_211 => ?_)
        obtain ⟨h_218, h_211⟩ := h_211
        replace h_218 := h_218.trans (congrArg (fun Z9 => (performR 9 Z9 (X.1 14 (3 * kk + 0)) (X.1 14 (3 * kk + 1)) (X.1 14 (3 * kk + 2))).1) rd_out)
        subst h_218
        obtain ⟨w_219, ew_219⟩ : ∃ Z9, Z9 = (performR 9 zz (X.1 14 (3 * kk + 0)) (X.1 14 (3 * kk + 1)) (X.1 14 (3 * kk + 2))).2 := ⟨_, rfl⟩
        have hW_220 : Wd G (setRow (setRow X (sp + 1) (cpPlantR (X.1 (sp + 1)) (X.1 0))) 0 w_219) H_214 := Wd.cast (by rw [h_211, ew_219]; exact ((congrArg (fun Z9 => setRow (setRow (setRow X (sp + 1) (cpPlantR (X.1 (sp + 1)) (X.1 0))) 0 zz) 0 ((performR 9 Z9 (X.1 14 (3 * kk + 0)) (X.1 14 (3 * kk + 1)) (X.1 14 (3 * kk + 2))).2)) rd_out).trans sr_out)) hW_216
        refine lv_if_ge (tgt := 75) hx hb dX7_performScript_59 (by decide) (fun b_221 => ?_) (fun b_221 => ?_)
        · refine lv_iinc (v := nI (kk + 1)) (lv' := [(1, .int (nI (kk + 1))), (2, .ref (ad G (738 + kk))), (0, .ref (ad G 715))]) hx hb dX7_performScript_75 hl_21 (k := 1) rfl (nI_1 kk) (by decide) rfl (fun ls_222 hl_223 => ?_)
          refine lv_goto (tgt := 13) hx hb dX7_performScript_78 (by decide) ?_
          exact ih (kk + 1) w_219 H_214 locs_215 ls_222 (by omega) (by subst ew_219; exact perf_inv hz _) (by subst ew_219; rw [← hf, psL, hcI, if_pos b_221]) hW_220 hS_217 (lv_sub hl_223 [0, 2] rfl)
        · refine lv_aload_n hx hb dX7_performScript_62 rfl (lv_at hl_21 2 rfl) ?_
          refine gF_history C hW_220 (hwc hwX7) (mc qw_288) dX7_performScript_63 ?_
          refine lv_aload_n hx hb dX7_performScript_66 rfl (lv_at hl_21 2 rfl) ?_
          refine gF_plant C hW_220 (hwc hwX7) (mc qw_287) dX7_performScript_67 ?_
          refine g_callv (va_runV (As := [.ref (ad G 0)]) (rest := []) C.1 (cX2_takeBack_ok l G (setRow (setRow X (sp + 1) (cpPlantR (X.1 (sp + 1)) (X.1 0))) 0 w_219) sp hsp ((congrFun (rd_in (by decide) (rd_in (by omega) rfl)) _).trans es)) (cwV 1 C.1.2.2.2.2 (gV qw_1423 qw_1424 qw_1425 qw_75 qw_1426) rfl rfl rfl (by decide +kernel) ⟨Nat.le_of_ble_eq_true rfl, Nat.le_of_ble_eq_true rfl⟩) (g_rHist C hW_220 hS_217 [.ref (ad G 0)]) rfl rfl hl_21.1 rfl (lv_room (Nat.le_of_ble_eq_true rfl)) dX7_performScript_70 ⟨Nat.zero_le _, Nat.zero_le _⟩) hS_217 (fun Y_225 H_226 locs_227 hW_228 hS_229 h_224 => ?_)
          rw [show (setRow (setRow X (sp + 1) (cpPlantR (X.1 (sp + 1)) (X.1 0))) 0 w_219).1 (sp + 1) = cpPlantR (X.1 (sp + 1)) (X.1 0) from (rd_in (by omega) rd_out)] at h_224
          obtain ⟨w_230, ew_230⟩ : ∃ Z9, Z9 = cpPlantR w_219 (cpPlantR (X.1 (sp + 1)) (X.1 0)) := ⟨_, rfl⟩
          have hW_231 : Wd G (setRow (setRow X (sp + 1) (cpPlantR (X.1 (sp + 1)) (X.1 0))) 0 w_230) H_226 := Wd.cast (by rw [h_224, ew_230]; exact ((congrArg (fun Z9 => setRow (setRow (setRow X (sp + 1) (cpPlantR (X.1 (sp + 1)) (X.1 0))) 0 w_219) 0 (cpPlantR Z9 (cpPlantR (X.1 (sp + 1)) (X.1 0)))) rd_out).trans sr_out)) hW_228
          refine lv_iload_n hx hb dX7_performScript_73 rfl (lv_at hl_21 1 rfl) ?_
          exact g_iret C hr hlk hW_231 hS_229 dX7_performScript_74 (by exfalso; rw [← hf, psL, hcI, if_neg b_221] at hok; exact nI_nm1 (show kk < 2 ^ 31 by omega) hok)
  exact loop mm 0 (X.1 0) H_3 locs_4 ls_9 (by omega) hi rfl (Wd.cast (by subst ew_7; exact (sr_same (X := setRow X (sp + 1) (cpPlantR (X.1 (sp + 1)) (X.1 0))) (r := 0) (rd_in (by omega) rfl).symm).symm) hW_8) hS_6 (lv_sub hl_10 [0, 1] rfl)

set_option maxHeartbeats 4000000 in
set_option maxRecDepth 100000 in
theorem cX7_performScript0_ok (l : Launch) (G : GT) (X : St) (hi : PInv (X.1 0)) (sp : Nat) (hsp : sp < 9) (es : X.1 11 3 = nI sp) (cn : Nat) (hcn : cn ≤ 8) (ec : X.1 11 4 = nI cn) (mm : Nat) (hm : mm ≤ 60) (em : X.1 11 7 = nI mm) (hcm : ∀ i, i < mm → ∃ c, c < 10 ∧ X.1 13 i = nI (c + 1)) (hok : ¬ (psL (X.1 13) (X.1 14) mm 0 (X.1 0)).1 = -1) : MetI l G yX7_performScript (wsG yX7_performScript cX7_performScript 3 (some .int)) (rmz 41 424) [.ref (ad G 715)] X (fun res Y => res = (psL (X.1 13) (X.1 14) mm 0 (X.1 0)).1 ∧ Y = setRow (setRow X (sp + 1) (cpPlantR (X.1 (sp + 1)) (X.1 0))) 0 (cpPlantR (psL (X.1 13) (X.1 14) mm 0 (X.1 0)).2 (cpPlantR (X.1 (sp + 1)) (X.1 0)))) := by
  refine g_met (cc := cX7_performScript) (maxL := 3) (ret := (some .int)) (by decide) rfl (Nat.le_of_ble_eq_true rfl) ?_
  intro p e s m below meth c ls C hr hlk hnm hW hl
  have hx := C.1.1
  have hb := C.1.2.1
  have hS : va_S (Ab G) s.heap s.heap [] := va_S.rf
  have hl : lv_has ls 3 [(0, .ref (ad G 715))] := hl
  refine lv_aload_n hx hb dX7_performScript_0 rfl (lv_at hl 0 rfl) ?_
  refine gF_history C hW (hwc hwX7) (mc qw_288) dX7_performScript_1 ?_
  refine lv_aload_n hx hb dX7_performScript_4 rfl (lv_at hl 0 rfl) ?_
  refine gF_plant C hW (hwc hwX7) (mc qw_287) dX7_performScript_5 ?_
  refine g_callv (va_runV (As := [.ref (ad G 0)]) (rest := []) C.1 (cX2_note_ok l G X sp hsp es) (cwV 1 C.1.2.2.2.2 (gV qw_804 qw_805 qw_806 qw_75 qw_807) rfl rfl rfl (by decide +kernel) ⟨Nat.le_of_ble_eq_true rfl, Nat.le_of_ble_eq_true rfl⟩) (g_rHist C hW hS [.ref (ad G 0)]) rfl rfl hl.1 rfl (lv_room (Nat.le_of_ble_eq_true rfl)) dX7_performScript_8 ⟨Nat.zero_le _, Nat.zero_le _⟩) hS (fun Y_2 H_3 locs_4 hW_5 hS_6 h_1 => ?_)
  obtain ⟨w_7, ew_7⟩ : ∃ Z9, Z9 = cpPlantR (X.1 (sp + 1)) (X.1 0) := ⟨_, rfl⟩
  have hW_8 : Wd G (setRow X (sp + 1) w_7) H_3 := Wd.cast (by rw [h_1, ew_7]) hW_5
  refine lv_iconst (v := 0) hx hb dX7_performScript_11 (by decide) ?_
  refine lv_istore_n (lv' := [(1, .int 0), (0, .ref (ad G 715))]) hx hb dX7_performScript_12 rfl hl (by decide) rfl (fun ls_9 hl_10 => ?_)
  have loop : ∀ (q : Nat) (kk : Nat) (zz : Nat → Int32) (H : Heap) (locs : List Loc) (ls : Array Slot), kk + q = mm → PInv zz → psL (X.1 13) (X.1 14) q kk zz = psL (X.1 13) (X.1 14) mm 0 (X.1 0) → Wd G (setRow (setRow X (sp + 1) (cpPlantR (X.1 (sp + 1)) (X.1 0))) 0 zz) H → va_S (Ab G) s.heap H locs → lv_has ls 3 [(1, .int (nI kk)), (0, .ref (ad G 715))] → W p l e (rmz 41 424) s m ([.ref (ad G 715)] : List Value).toArray below meth c H locs 0 0 (MQ below (Ki G (fun res Y => res = (psL (X.1 13) (X.1 14) mm 0 (X.1 0)).1 ∧ Y = setRow (setRow X (sp + 1) (cpPlantR (X.1 (sp + 1)) (X.1 0))) 0 (cpPlantR (psL (X.1 13) (X.1 14) mm 0 (X.1 0)).2 (cpPlantR (X.1 (sp + 1)) (X.1 0))))) ([.ref (ad G 715)] : List Value).toArray s 0 0 (Ab G)) (F0 m 13 ls []) := by
    intro q
    induction q with
    | zero =>
      intro kk zz H locs ls hq hz hf hW hS hl
      refine lv_iload_n hx hb dX7_performScript_13 rfl (lv_at hl 0 rfl) ?_
      refine lv_aload_n hx hb dX7_performScript_14 rfl (lv_at hl 1 rfl) ?_
      refine gF_script C hW (hwc hwX7) (mc qw_291) dX7_performScript_15 ?_
      refine gSc_commandCountN C hW (hwc hwX5) nw_15 dX7_performScript_18 ?_
      refine g_top (y := X.1 11 (7)) (congrFun (rd_in (by decide) (rd_in (by omega) rfl)) _) ?_
      refine g_top (y := nI mm) em ?_
      refine lv_icmp_ge (tgt := 81) hx hb dX7_performScript_21 (by decide) (fun _ => ?_) (fun h9 => absurd ((nI_leI (a := mm) (b := kk) (by omega) (by omega)).mpr (by omega)) h9)
      refine lv_aload_n hx hb dX7_performScript_81 rfl (lv_at hl 1 rfl) ?_
      refine gF_history C hW (hwc hwX7) (mc qw_288) dX7_performScript_82 ?_
      refine g_callv (va_runV (As := []) (rest := []) C.1 (cX2_keep_ok l G (setRow (setRow X (sp + 1) (cpPlantR (X.1 (sp + 1)) (X.1 0))) 0 zz) sp hsp ((congrFun (rd_in (by decide) (rd_in (by omega) rfl)) _).trans es) cn hcn ((congrFun (rd_in (by decide) (rd_in (by omega) rfl)) _).trans ec)) (cwV 0 C.1.2.2.2.2 (gV qw_983 qw_984 qw_985 qw_75 qw_986) rfl rfl rfl (by decide +kernel) ⟨Nat.le_of_ble_eq_true rfl, Nat.le_of_ble_eq_true rfl⟩) (g_rHist C hW hS []) rfl rfl hl.1 rfl (lv_room (Nat.le_of_ble_eq_true rfl)) dX7_performScript_85 ⟨Nat.zero_le _, Nat.zero_le _⟩) hS (fun Y_12 H_13 locs_14 hW_15 hS_16 h_11 => ?_)
      obtain ⟨w_17, ew_17⟩ : ∃ Z9, Z9 = keepR (X.1 11) sp cn := ⟨_, rfl⟩
      have kn_18 : w_17 (7) = nI mm := by rw [ew_17]; exact (kp_keepR (by omega)).trans em
      have hW_19 : Wd G (setRow (setRow (setRow X (sp + 1) (cpPlantR (X.1 (sp + 1)) (X.1 0))) 0 zz) 11 w_17) H_13 := Wd.cast (by rw [h_11, ew_17]; exact (congrArg (fun Z9 => setRow (setRow (setRow X (sp + 1) (cpPlantR (X.1 (sp + 1)) (X.1 0))) 0 zz) 11 (keepR Z9 sp cn)) (rd_in (by decide) (rd_in (by omega) rfl)))) hW_15
      refine lv_iconst (v := (-1)) hx hb dX7_performScript_88 (by decide) ?_
      exact g_iret C hr hlk hW_19 hS_16 dX7_performScript_89 (absurd (by rw [← hf]; rfl) hok)
    | succ q ih =>
      intro kk zz H locs ls hq hz hf hW hS hl
      refine lv_iload_n hx hb dX7_performScript_13 rfl (lv_at hl 0 rfl) ?_
      refine lv_aload_n hx hb dX7_performScript_14 rfl (lv_at hl 1 rfl) ?_
      refine gF_script C hW (hwc hwX7) (mc qw_291) dX7_performScript_15 ?_
      refine gSc_commandCountN C hW (hwc hwX5) nw_15 dX7_performScript_18 ?_
      refine g_top (y := X.1 11 (7)) (congrFun (rd_in (by decide) (rd_in (by omega) rfl)) _) ?_
      refine g_top (y := nI mm) em ?_
      refine lv_icmp_ge (tgt := 81) hx hb dX7_performScript_21 (by decide) (fun h9 => absurd h9 (fun h8 => absurd ((nI_leI (a := mm) (b := kk) (by omega) (by omega)).mp h8) (by omega))) (fun _ => ?_)
      refine lv_aload_n hx hb dX7_performScript_24 rfl (lv_at hl 1 rfl) ?_
      refine gF_script C hW (hwc hwX7) (mc qw_291) dX7_performScript_25 ?_
      refine gSc_argumentsN C hW (hwc hwX5) nw_16 dX7_performScript_28 ?_
      refine lv_iload_n hx hb dX7_performScript_31 rfl (lv_at hl 0 rfl) ?_
      refine g_args C hW kk (nI_clamp (by omega)) (vp_in_nI (show kk < 60 by omega) (by decide)) dX7_performScript_32 ?_
      refine lv_astore_n (lv' := [(2, .ref (ad G (738 + kk))), (1, .int (nI kk)), (0, .ref (ad G 715))]) hx hb dX7_performScript_33 rfl hl (by decide) rfl (fun ls_20 hl_21 => ?_)
      refine lv_aload_n hx hb dX7_performScript_34 rfl (lv_at hl_21 2 rfl) ?_
      refine gF_plant C hW (hwc hwX7) (mc qw_287) dX7_performScript_35 ?_
      refine lv_aload_n hx hb dX7_performScript_38 rfl (lv_at hl_21 2 rfl) ?_
      refine gF_script C hW (hwc hwX7) (mc qw_291) dX7_performScript_39 ?_
      refine gSc_commandsN C hW (hwc hwX5) nw_17 dX7_performScript_42 ?_
      refine lv_iload_n hx hb dX7_performScript_45 rfl (lv_at hl_21 1 rfl) ?_
      obtain ⟨c9, hc9, ec9⟩ := hcm kk (by omega)
      have hcI : cmdI (X.1 13) kk = c9 := by rw [cmdI, ec9, clf (show c9 + 1 < 2 ^ 31 by omega)]; rfl
      refine g_cmdld C hW kk (nI_clamp (by omega)) (vp_in_nI (show kk < 60 by omega) (by decide)) hc9 ((congrFun (rd_in (by decide) (rd_in (by omega) rfl)) _).trans ec9) dX7_performScript_46 ?_
      rcases (show c9 = 0 ∨ c9 = 1 ∨ c9 = 2 ∨ c9 = 3 ∨ c9 = 4 ∨ c9 = 5 ∨ c9 = 6 ∨ c9 = 7 ∨ c9 = 8 ∨ c9 = 9 by omega) with rfl | rfl | rfl | rfl | rfl | rfl | rfl | rfl | rfl | rfl
      · refine lv_aload_n hx hb dX7_performScript_47 rfl (lv_at hl_21 0 rfl) ?_
        refine lv_iconst (v := 0) hx hb dX7_performScript_48 (by decide) ?_
        refine g_argld C hW (show kk < 60 by omega) 0 (by decide) (vlit (by decide)) dX7_performScript_49 ?_
        refine g_top (y := X.1 14 (3 * kk + 0)) (congrFun (rd_in (by decide) (rd_in (by omega) rfl)) _) ?_
        refine lv_aload_n hx hb dX7_performScript_50 rfl (lv_at hl_21 0 rfl) ?_
        refine lv_iconst (v := 1) hx hb dX7_performScript_51 (by decide) ?_
        refine g_argld C hW (show kk < 60 by omega) 1 (by decide) (vlit (by decide)) dX7_performScript_52 ?_
        refine g_top (y := X.1 14 (3 * kk + 1)) (congrFun (rd_in (by decide) (rd_in (by omega) rfl)) _) ?_
        refine lv_aload_n hx hb dX7_performScript_53 rfl (lv_at hl_21 0 rfl) ?_
        refine lv_iconst (v := 2) hx hb dX7_performScript_54 (by decide) ?_
        refine g_argld C hW (show kk < 60 by omega) 2 (by decide) (vlit (by decide)) dX7_performScript_55 ?_
        refine g_top (y := X.1 14 (3 * kk + 2)) (congrFun (rd_in (by decide) (rd_in (by omega) rfl)) _) ?_
        refine g_calli (va_runV (As := [.ref (cy G (20 + 0)), .int (X.1 14 (3 * kk + 0)), .int (X.1 14 (3 * kk + 1)), .int (X.1 14 (3 * kk + 2))]) (rest := []) C.1 (cX4_perform0_ok l G (setRow (setRow X (sp + 1) (cpPlantR (X.1 (sp + 1)) (X.1 0))) 0 zz) 0 h0_11 (show PInv ((setRow (setRow X (sp + 1) (cpPlantR (X.1 (sp + 1)) (X.1 0))) 0 zz).1 0) from by rw [show (setRow (setRow X (sp + 1) (cpPlantR (X.1 (sp + 1)) (X.1 0))) 0 zz).1 0 = zz from rd_out]; exact hz) (X.1 14 (3 * kk + 0)) (X.1 14 (3 * kk + 1)) (X.1 14 (3 * kk + 2))) (cwV 4 C.1.2.2.2.2 (gV qw_809 qw_810 qw_811 qw_72 qw_812) rfl rfl rfl (by decide +kernel) ⟨Nat.le_of_ble_eq_true rfl, Nat.le_of_ble_eq_true rfl⟩) (g_rPlant C hW hS h0_11 [.ref (cy G (20 + 0)), .int (X.1 14 (3 * kk + 0)), .int (X.1 14 (3 * kk + 1)), .int (X.1 14 (3 * kk + 2))]) rfl rfl hl_21.1 rfl (lv_room (Nat.le_of_ble_eq_true rfl)) dX7_performScript_56 ⟨Nat.zero_le _, Nat.zero_le _⟩) hS (fun r_23 Y_24 H_25 locs_26 hW_27 hS_28 h_22 => ?_)
        obtain ⟨h_29, h_22⟩ := h_22
        replace h_29 := h_29.trans (congrArg (fun Z9 => (performR 0 Z9 (X.1 14 (3 * kk + 0)) (X.1 14 (3 * kk + 1)) (X.1 14 (3 * kk + 2))).1) rd_out)
        subst h_29
        obtain ⟨w_30, ew_30⟩ : ∃ Z9, Z9 = (performR 0 zz (X.1 14 (3 * kk + 0)) (X.1 14 (3 * kk + 1)) (X.1 14 (3 * kk + 2))).2 := ⟨_, rfl⟩
        have hW_31 : Wd G (setRow (setRow X (sp + 1) (cpPlantR (X.1 (sp + 1)) (X.1 0))) 0 w_30) H_25 := Wd.cast (by rw [h_22, ew_30]; exact ((congrArg (fun Z9 => setRow (setRow (setRow X (sp + 1) (cpPlantR (X.1 (sp + 1)) (X.1 0))) 0 zz) 0 ((performR 0 Z9 (X.1 14 (3 * kk + 0)) (X.1 14 (3 * kk + 1)) (X.1 14 (3 * kk + 2))).2)) rd_out).trans sr_out)) hW_27
        refine lv_if_ge (tgt := 75) hx hb dX7_performScript_59 (by decide) (fun b_32 => ?_) (fun b_32 => ?_)
        · refine lv_iinc (v := nI (kk + 1)) (lv' := [(1, .int (nI (kk + 1))), (2, .ref (ad G (738 + kk))), (0, .ref (ad G 715))]) hx hb dX7_performScript_75 hl_21 (k := 1) rfl (nI_1 kk) (by decide) rfl (fun ls_33 hl_34 => ?_)
          refine lv_goto (tgt := 13) hx hb dX7_performScript_78 (by decide) ?_
          exact ih (kk + 1) w_30 H_25 locs_26 ls_33 (by omega) (by subst ew_30; exact perf_inv hz _) (by subst ew_30; rw [← hf, psL, hcI, if_pos b_32]) hW_31 hS_28 (lv_sub hl_34 [0, 2] rfl)
        · refine lv_aload_n hx hb dX7_performScript_62 rfl (lv_at hl_21 2 rfl) ?_
          refine gF_history C hW_31 (hwc hwX7) (mc qw_288) dX7_performScript_63 ?_
          refine lv_aload_n hx hb dX7_performScript_66 rfl (lv_at hl_21 2 rfl) ?_
          refine gF_plant C hW_31 (hwc hwX7) (mc qw_287) dX7_performScript_67 ?_
          refine g_callv (va_runV (As := [.ref (ad G 0)]) (rest := []) C.1 (cX2_takeBack_ok l G (setRow (setRow X (sp + 1) (cpPlantR (X.1 (sp + 1)) (X.1 0))) 0 w_30) sp hsp ((congrFun (rd_in (by decide) (rd_in (by omega) rfl)) _).trans es)) (cwV 1 C.1.2.2.2.2 (gV qw_1423 qw_1424 qw_1425 qw_75 qw_1426) rfl rfl rfl (by decide +kernel) ⟨Nat.le_of_ble_eq_true rfl, Nat.le_of_ble_eq_true rfl⟩) (g_rHist C hW_31 hS_28 [.ref (ad G 0)]) rfl rfl hl_21.1 rfl (lv_room (Nat.le_of_ble_eq_true rfl)) dX7_performScript_70 ⟨Nat.zero_le _, Nat.zero_le _⟩) hS_28 (fun Y_36 H_37 locs_38 hW_39 hS_40 h_35 => ?_)
          rw [show (setRow (setRow X (sp + 1) (cpPlantR (X.1 (sp + 1)) (X.1 0))) 0 w_30).1 (sp + 1) = cpPlantR (X.1 (sp + 1)) (X.1 0) from (rd_in (by omega) rd_out)] at h_35
          obtain ⟨w_41, ew_41⟩ : ∃ Z9, Z9 = cpPlantR w_30 (cpPlantR (X.1 (sp + 1)) (X.1 0)) := ⟨_, rfl⟩
          have hW_42 : Wd G (setRow (setRow X (sp + 1) (cpPlantR (X.1 (sp + 1)) (X.1 0))) 0 w_41) H_37 := Wd.cast (by rw [h_35, ew_41]; exact ((congrArg (fun Z9 => setRow (setRow (setRow X (sp + 1) (cpPlantR (X.1 (sp + 1)) (X.1 0))) 0 w_30) 0 (cpPlantR Z9 (cpPlantR (X.1 (sp + 1)) (X.1 0)))) rd_out).trans sr_out)) hW_39
          refine lv_iload_n hx hb dX7_performScript_73 rfl (lv_at hl_21 1 rfl) ?_
          exact g_iret C hr hlk hW_42 hS_40 dX7_performScript_74 (by subst ew_41; subst ew_30; exact ⟨by rw [← hf, psL, hcI, if_neg b_32], by rw [← hf, psL, hcI, if_neg b_32]⟩)
      · refine lv_aload_n hx hb dX7_performScript_47 rfl (lv_at hl_21 0 rfl) ?_
        refine lv_iconst (v := 0) hx hb dX7_performScript_48 (by decide) ?_
        refine g_argld C hW (show kk < 60 by omega) 0 (by decide) (vlit (by decide)) dX7_performScript_49 ?_
        refine g_top (y := X.1 14 (3 * kk + 0)) (congrFun (rd_in (by decide) (rd_in (by omega) rfl)) _) ?_
        refine lv_aload_n hx hb dX7_performScript_50 rfl (lv_at hl_21 0 rfl) ?_
        refine lv_iconst (v := 1) hx hb dX7_performScript_51 (by decide) ?_
        refine g_argld C hW (show kk < 60 by omega) 1 (by decide) (vlit (by decide)) dX7_performScript_52 ?_
        refine g_top (y := X.1 14 (3 * kk + 1)) (congrFun (rd_in (by decide) (rd_in (by omega) rfl)) _) ?_
        refine lv_aload_n hx hb dX7_performScript_53 rfl (lv_at hl_21 0 rfl) ?_
        refine lv_iconst (v := 2) hx hb dX7_performScript_54 (by decide) ?_
        refine g_argld C hW (show kk < 60 by omega) 2 (by decide) (vlit (by decide)) dX7_performScript_55 ?_
        refine g_top (y := X.1 14 (3 * kk + 2)) (congrFun (rd_in (by decide) (rd_in (by omega) rfl)) _) ?_
        refine g_calli (va_runV (As := [.ref (cy G (20 + 1)), .int (X.1 14 (3 * kk + 0)), .int (X.1 14 (3 * kk + 1)), .int (X.1 14 (3 * kk + 2))]) (rest := []) C.1 (cX4_perform1_ok l G (setRow (setRow X (sp + 1) (cpPlantR (X.1 (sp + 1)) (X.1 0))) 0 zz) 0 h0_11 (show PInv ((setRow (setRow X (sp + 1) (cpPlantR (X.1 (sp + 1)) (X.1 0))) 0 zz).1 0) from by rw [show (setRow (setRow X (sp + 1) (cpPlantR (X.1 (sp + 1)) (X.1 0))) 0 zz).1 0 = zz from rd_out]; exact hz) (X.1 14 (3 * kk + 0)) (X.1 14 (3 * kk + 1)) (X.1 14 (3 * kk + 2))) (cwV 4 C.1.2.2.2.2 (gV qw_809 qw_810 qw_811 qw_72 qw_812) rfl rfl rfl (by decide +kernel) ⟨Nat.le_of_ble_eq_true rfl, Nat.le_of_ble_eq_true rfl⟩) (g_rPlant C hW hS h0_11 [.ref (cy G (20 + 1)), .int (X.1 14 (3 * kk + 0)), .int (X.1 14 (3 * kk + 1)), .int (X.1 14 (3 * kk + 2))]) rfl rfl hl_21.1 rfl (lv_room (Nat.le_of_ble_eq_true rfl)) dX7_performScript_56 ⟨Nat.zero_le _, Nat.zero_le _⟩) hS (fun r_44 Y_45 H_46 locs_47 hW_48 hS_49 h_43 => ?_)
        obtain ⟨h_50, h_43⟩ := h_43
        replace h_50 := h_50.trans (congrArg (fun Z9 => (performR 1 Z9 (X.1 14 (3 * kk + 0)) (X.1 14 (3 * kk + 1)) (X.1 14 (3 * kk + 2))).1) rd_out)
        subst h_50
        obtain ⟨w_51, ew_51⟩ : ∃ Z9, Z9 = (performR 1 zz (X.1 14 (3 * kk + 0)) (X.1 14 (3 * kk + 1)) (X.1 14 (3 * kk + 2))).2 := ⟨_, rfl⟩
        have hW_52 : Wd G (setRow (setRow X (sp + 1) (cpPlantR (X.1 (sp + 1)) (X.1 0))) 0 w_51) H_46 := Wd.cast (by rw [h_43, ew_51]; exact ((congrArg (fun Z9 => setRow (setRow (setRow X (sp + 1) (cpPlantR (X.1 (sp + 1)) (X.1 0))) 0 zz) 0 ((performR 1 Z9 (X.1 14 (3 * kk + 0)) (X.1 14 (3 * kk + 1)) (X.1 14 (3 * kk + 2))).2)) rd_out).trans sr_out)) hW_48
        refine lv_if_ge (tgt := 75) hx hb dX7_performScript_59 (by decide) (fun b_53 => ?_) (fun b_53 => ?_)
        · refine lv_iinc (v := nI (kk + 1)) (lv' := [(1, .int (nI (kk + 1))), (2, .ref (ad G (738 + kk))), (0, .ref (ad G 715))]) hx hb dX7_performScript_75 hl_21 (k := 1) rfl (nI_1 kk) (by decide) rfl (fun ls_54 hl_55 => ?_)
          refine lv_goto (tgt := 13) hx hb dX7_performScript_78 (by decide) ?_
          exact ih (kk + 1) w_51 H_46 locs_47 ls_54 (by omega) (by subst ew_51; exact perf_inv hz _) (by subst ew_51; rw [← hf, psL, hcI, if_pos b_53]) hW_52 hS_49 (lv_sub hl_55 [0, 2] rfl)
        · refine lv_aload_n hx hb dX7_performScript_62 rfl (lv_at hl_21 2 rfl) ?_
          refine gF_history C hW_52 (hwc hwX7) (mc qw_288) dX7_performScript_63 ?_
          refine lv_aload_n hx hb dX7_performScript_66 rfl (lv_at hl_21 2 rfl) ?_
          refine gF_plant C hW_52 (hwc hwX7) (mc qw_287) dX7_performScript_67 ?_
          refine g_callv (va_runV (As := [.ref (ad G 0)]) (rest := []) C.1 (cX2_takeBack_ok l G (setRow (setRow X (sp + 1) (cpPlantR (X.1 (sp + 1)) (X.1 0))) 0 w_51) sp hsp ((congrFun (rd_in (by decide) (rd_in (by omega) rfl)) _).trans es)) (cwV 1 C.1.2.2.2.2 (gV qw_1423 qw_1424 qw_1425 qw_75 qw_1426) rfl rfl rfl (by decide +kernel) ⟨Nat.le_of_ble_eq_true rfl, Nat.le_of_ble_eq_true rfl⟩) (g_rHist C hW_52 hS_49 [.ref (ad G 0)]) rfl rfl hl_21.1 rfl (lv_room (Nat.le_of_ble_eq_true rfl)) dX7_performScript_70 ⟨Nat.zero_le _, Nat.zero_le _⟩) hS_49 (fun Y_57 H_58 locs_59 hW_60 hS_61 h_56 => ?_)
          rw [show (setRow (setRow X (sp + 1) (cpPlantR (X.1 (sp + 1)) (X.1 0))) 0 w_51).1 (sp + 1) = cpPlantR (X.1 (sp + 1)) (X.1 0) from (rd_in (by omega) rd_out)] at h_56
          obtain ⟨w_62, ew_62⟩ : ∃ Z9, Z9 = cpPlantR w_51 (cpPlantR (X.1 (sp + 1)) (X.1 0)) := ⟨_, rfl⟩
          have hW_63 : Wd G (setRow (setRow X (sp + 1) (cpPlantR (X.1 (sp + 1)) (X.1 0))) 0 w_62) H_58 := Wd.cast (by rw [h_56, ew_62]; exact ((congrArg (fun Z9 => setRow (setRow (setRow X (sp + 1) (cpPlantR (X.1 (sp + 1)) (X.1 0))) 0 w_51) 0 (cpPlantR Z9 (cpPlantR (X.1 (sp + 1)) (X.1 0)))) rd_out).trans sr_out)) hW_60
          refine lv_iload_n hx hb dX7_performScript_73 rfl (lv_at hl_21 1 rfl) ?_
          exact g_iret C hr hlk hW_63 hS_61 dX7_performScript_74 (by subst ew_62; subst ew_51; exact ⟨by rw [← hf, psL, hcI, if_neg b_53], by rw [← hf, psL, hcI, if_neg b_53]⟩)
      · refine lv_aload_n hx hb dX7_performScript_47 rfl (lv_at hl_21 0 rfl) ?_
        refine lv_iconst (v := 0) hx hb dX7_performScript_48 (by decide) ?_
        refine g_argld C hW (show kk < 60 by omega) 0 (by decide) (vlit (by decide)) dX7_performScript_49 ?_
        refine g_top (y := X.1 14 (3 * kk + 0)) (congrFun (rd_in (by decide) (rd_in (by omega) rfl)) _) ?_
        refine lv_aload_n hx hb dX7_performScript_50 rfl (lv_at hl_21 0 rfl) ?_
        refine lv_iconst (v := 1) hx hb dX7_performScript_51 (by decide) ?_
        refine g_argld C hW (show kk < 60 by omega) 1 (by decide) (vlit (by decide)) dX7_performScript_52 ?_
        refine g_top (y := X.1 14 (3 * kk + 1)) (congrFun (rd_in (by decide) (rd_in (by omega) rfl)) _) ?_
        refine lv_aload_n hx hb dX7_performScript_53 rfl (lv_at hl_21 0 rfl) ?_
        refine lv_iconst (v := 2) hx hb dX7_performScript_54 (by decide) ?_
        refine g_argld C hW (show kk < 60 by omega) 2 (by decide) (vlit (by decide)) dX7_performScript_55 ?_
        refine g_top (y := X.1 14 (3 * kk + 2)) (congrFun (rd_in (by decide) (rd_in (by omega) rfl)) _) ?_
        refine g_calli (va_runV (As := [.ref (cy G (20 + 2)), .int (X.1 14 (3 * kk + 0)), .int (X.1 14 (3 * kk + 1)), .int (X.1 14 (3 * kk + 2))]) (rest := []) C.1 (cX4_perform2_ok l G (setRow (setRow X (sp + 1) (cpPlantR (X.1 (sp + 1)) (X.1 0))) 0 zz) 0 h0_11 (show PInv ((setRow (setRow X (sp + 1) (cpPlantR (X.1 (sp + 1)) (X.1 0))) 0 zz).1 0) from by rw [show (setRow (setRow X (sp + 1) (cpPlantR (X.1 (sp + 1)) (X.1 0))) 0 zz).1 0 = zz from rd_out]; exact hz) (X.1 14 (3 * kk + 0)) (X.1 14 (3 * kk + 1)) (X.1 14 (3 * kk + 2))) (cwV 4 C.1.2.2.2.2 (gV qw_809 qw_810 qw_811 qw_72 qw_812) rfl rfl rfl (by decide +kernel) ⟨Nat.le_of_ble_eq_true rfl, Nat.le_of_ble_eq_true rfl⟩) (g_rPlant C hW hS h0_11 [.ref (cy G (20 + 2)), .int (X.1 14 (3 * kk + 0)), .int (X.1 14 (3 * kk + 1)), .int (X.1 14 (3 * kk + 2))]) rfl rfl hl_21.1 rfl (lv_room (Nat.le_of_ble_eq_true rfl)) dX7_performScript_56 ⟨Nat.zero_le _, Nat.zero_le _⟩) hS (fun r_65 Y_66 H_67 locs_68 hW_69 hS_70 h_64 => ?_)
        obtain ⟨h_71, h_64⟩ := h_64
        replace h_71 := h_71.trans (congrArg (fun Z9 => (performR 2 Z9 (X.1 14 (3 * kk + 0)) (X.1 14 (3 * kk + 1)) (X.1 14 (3 * kk + 2))).1) rd_out)
        subst h_71
        obtain ⟨w_72, ew_72⟩ : ∃ Z9, Z9 = (performR 2 zz (X.1 14 (3 * kk + 0)) (X.1 14 (3 * kk + 1)) (X.1 14 (3 * kk + 2))).2 := ⟨_, rfl⟩
        have hW_73 : Wd G (setRow (setRow X (sp + 1) (cpPlantR (X.1 (sp + 1)) (X.1 0))) 0 w_72) H_67 := Wd.cast (by rw [h_64, ew_72]; exact ((congrArg (fun Z9 => setRow (setRow (setRow X (sp + 1) (cpPlantR (X.1 (sp + 1)) (X.1 0))) 0 zz) 0 ((performR 2 Z9 (X.1 14 (3 * kk + 0)) (X.1 14 (3 * kk + 1)) (X.1 14 (3 * kk + 2))).2)) rd_out).trans sr_out)) hW_69
        refine lv_if_ge (tgt := 75) hx hb dX7_performScript_59 (by decide) (fun b_74 => ?_) (fun b_74 => ?_)
        · refine lv_iinc (v := nI (kk + 1)) (lv' := [(1, .int (nI (kk + 1))), (2, .ref (ad G (738 + kk))), (0, .ref (ad G 715))]) hx hb dX7_performScript_75 hl_21 (k := 1) rfl (nI_1 kk) (by decide) rfl (fun ls_75 hl_76 => ?_)
          refine lv_goto (tgt := 13) hx hb dX7_performScript_78 (by decide) ?_
          exact ih (kk + 1) w_72 H_67 locs_68 ls_75 (by omega) (by subst ew_72; exact perf_inv hz _) (by subst ew_72; rw [← hf, psL, hcI, if_pos b_74]) hW_73 hS_70 (lv_sub hl_76 [0, 2] rfl)
        · refine lv_aload_n hx hb dX7_performScript_62 rfl (lv_at hl_21 2 rfl) ?_
          refine gF_history C hW_73 (hwc hwX7) (mc qw_288) dX7_performScript_63 ?_
          refine lv_aload_n hx hb dX7_performScript_66 rfl (lv_at hl_21 2 rfl) ?_
          refine gF_plant C hW_73 (hwc hwX7) (mc qw_287) dX7_performScript_67 ?_
          refine g_callv (va_runV (As := [.ref (ad G 0)]) (rest := []) C.1 (cX2_takeBack_ok l G (setRow (setRow X (sp + 1) (cpPlantR (X.1 (sp + 1)) (X.1 0))) 0 w_72) sp hsp ((congrFun (rd_in (by decide) (rd_in (by omega) rfl)) _).trans es)) (cwV 1 C.1.2.2.2.2 (gV qw_1423 qw_1424 qw_1425 qw_75 qw_1426) rfl rfl rfl (by decide +kernel) ⟨Nat.le_of_ble_eq_true rfl, Nat.le_of_ble_eq_true rfl⟩) (g_rHist C hW_73 hS_70 [.ref (ad G 0)]) rfl rfl hl_21.1 rfl (lv_room (Nat.le_of_ble_eq_true rfl)) dX7_performScript_70 ⟨Nat.zero_le _, Nat.zero_le _⟩) hS_70 (fun Y_78 H_79 locs_80 hW_81 hS_82 h_77 => ?_)
          rw [show (setRow (setRow X (sp + 1) (cpPlantR (X.1 (sp + 1)) (X.1 0))) 0 w_72).1 (sp + 1) = cpPlantR (X.1 (sp + 1)) (X.1 0) from (rd_in (by omega) rd_out)] at h_77
          obtain ⟨w_83, ew_83⟩ : ∃ Z9, Z9 = cpPlantR w_72 (cpPlantR (X.1 (sp + 1)) (X.1 0)) := ⟨_, rfl⟩
          have hW_84 : Wd G (setRow (setRow X (sp + 1) (cpPlantR (X.1 (sp + 1)) (X.1 0))) 0 w_83) H_79 := Wd.cast (by rw [h_77, ew_83]; exact ((congrArg (fun Z9 => setRow (setRow (setRow X (sp + 1) (cpPlantR (X.1 (sp + 1)) (X.1 0))) 0 w_72) 0 (cpPlantR Z9 (cpPlantR (X.1 (sp + 1)) (X.1 0)))) rd_out).trans sr_out)) hW_81
          refine lv_iload_n hx hb dX7_performScript_73 rfl (lv_at hl_21 1 rfl) ?_
          exact g_iret C hr hlk hW_84 hS_82 dX7_performScript_74 (by subst ew_83; subst ew_72; exact ⟨by rw [← hf, psL, hcI, if_neg b_74], by rw [← hf, psL, hcI, if_neg b_74]⟩)
      · refine lv_aload_n hx hb dX7_performScript_47 rfl (lv_at hl_21 0 rfl) ?_
        refine lv_iconst (v := 0) hx hb dX7_performScript_48 (by decide) ?_
        refine g_argld C hW (show kk < 60 by omega) 0 (by decide) (vlit (by decide)) dX7_performScript_49 ?_
        refine g_top (y := X.1 14 (3 * kk + 0)) (congrFun (rd_in (by decide) (rd_in (by omega) rfl)) _) ?_
        refine lv_aload_n hx hb dX7_performScript_50 rfl (lv_at hl_21 0 rfl) ?_
        refine lv_iconst (v := 1) hx hb dX7_performScript_51 (by decide) ?_
        refine g_argld C hW (show kk < 60 by omega) 1 (by decide) (vlit (by decide)) dX7_performScript_52 ?_
        refine g_top (y := X.1 14 (3 * kk + 1)) (congrFun (rd_in (by decide) (rd_in (by omega) rfl)) _) ?_
        refine lv_aload_n hx hb dX7_performScript_53 rfl (lv_at hl_21 0 rfl) ?_
        refine lv_iconst (v := 2) hx hb dX7_performScript_54 (by decide) ?_
        refine g_argld C hW (show kk < 60 by omega) 2 (by decide) (vlit (by decide)) dX7_performScript_55 ?_
        refine g_top (y := X.1 14 (3 * kk + 2)) (congrFun (rd_in (by decide) (rd_in (by omega) rfl)) _) ?_
        refine g_calli (va_runV (As := [.ref (cy G (20 + 3)), .int (X.1 14 (3 * kk + 0)), .int (X.1 14 (3 * kk + 1)), .int (X.1 14 (3 * kk + 2))]) (rest := []) C.1 (cX4_perform3_ok l G (setRow (setRow X (sp + 1) (cpPlantR (X.1 (sp + 1)) (X.1 0))) 0 zz) 0 h0_11 (show PInv ((setRow (setRow X (sp + 1) (cpPlantR (X.1 (sp + 1)) (X.1 0))) 0 zz).1 0) from by rw [show (setRow (setRow X (sp + 1) (cpPlantR (X.1 (sp + 1)) (X.1 0))) 0 zz).1 0 = zz from rd_out]; exact hz) (X.1 14 (3 * kk + 0)) (X.1 14 (3 * kk + 1)) (X.1 14 (3 * kk + 2))) (cwV 4 C.1.2.2.2.2 (gV qw_809 qw_810 qw_811 qw_72 qw_812) rfl rfl rfl (by decide +kernel) ⟨Nat.le_of_ble_eq_true rfl, Nat.le_of_ble_eq_true rfl⟩) (g_rPlant C hW hS h0_11 [.ref (cy G (20 + 3)), .int (X.1 14 (3 * kk + 0)), .int (X.1 14 (3 * kk + 1)), .int (X.1 14 (3 * kk + 2))]) rfl rfl hl_21.1 rfl (lv_room (Nat.le_of_ble_eq_true rfl)) dX7_performScript_56 ⟨Nat.zero_le _, Nat.zero_le _⟩) hS (fun r_86 Y_87 H_88 locs_89 hW_90 hS_91 h_85 => ?_)
        obtain ⟨h_92, h_85⟩ := h_85
        replace h_92 := h_92.trans (congrArg (fun Z9 => (performR 3 Z9 (X.1 14 (3 * kk + 0)) (X.1 14 (3 * kk + 1)) (X.1 14 (3 * kk + 2))).1) rd_out)
        subst h_92
        obtain ⟨w_93, ew_93⟩ : ∃ Z9, Z9 = (performR 3 zz (X.1 14 (3 * kk + 0)) (X.1 14 (3 * kk + 1)) (X.1 14 (3 * kk + 2))).2 := ⟨_, rfl⟩
        have hW_94 : Wd G (setRow (setRow X (sp + 1) (cpPlantR (X.1 (sp + 1)) (X.1 0))) 0 w_93) H_88 := Wd.cast (by rw [h_85, ew_93]; exact ((congrArg (fun Z9 => setRow (setRow (setRow X (sp + 1) (cpPlantR (X.1 (sp + 1)) (X.1 0))) 0 zz) 0 ((performR 3 Z9 (X.1 14 (3 * kk + 0)) (X.1 14 (3 * kk + 1)) (X.1 14 (3 * kk + 2))).2)) rd_out).trans sr_out)) hW_90
        refine lv_if_ge (tgt := 75) hx hb dX7_performScript_59 (by decide) (fun b_95 => ?_) (fun b_95 => ?_)
        · refine lv_iinc (v := nI (kk + 1)) (lv' := [(1, .int (nI (kk + 1))), (2, .ref (ad G (738 + kk))), (0, .ref (ad G 715))]) hx hb dX7_performScript_75 hl_21 (k := 1) rfl (nI_1 kk) (by decide) rfl (fun ls_96 hl_97 => ?_)
          refine lv_goto (tgt := 13) hx hb dX7_performScript_78 (by decide) ?_
          exact ih (kk + 1) w_93 H_88 locs_89 ls_96 (by omega) (by subst ew_93; exact perf_inv hz _) (by subst ew_93; rw [← hf, psL, hcI, if_pos b_95]) hW_94 hS_91 (lv_sub hl_97 [0, 2] rfl)
        · refine lv_aload_n hx hb dX7_performScript_62 rfl (lv_at hl_21 2 rfl) ?_
          refine gF_history C hW_94 (hwc hwX7) (mc qw_288) dX7_performScript_63 ?_
          refine lv_aload_n hx hb dX7_performScript_66 rfl (lv_at hl_21 2 rfl) ?_
          refine gF_plant C hW_94 (hwc hwX7) (mc qw_287) dX7_performScript_67 ?_
          refine g_callv (va_runV (As := [.ref (ad G 0)]) (rest := []) C.1 (cX2_takeBack_ok l G (setRow (setRow X (sp + 1) (cpPlantR (X.1 (sp + 1)) (X.1 0))) 0 w_93) sp hsp ((congrFun (rd_in (by decide) (rd_in (by omega) rfl)) _).trans es)) (cwV 1 C.1.2.2.2.2 (gV qw_1423 qw_1424 qw_1425 qw_75 qw_1426) rfl rfl rfl (by decide +kernel) ⟨Nat.le_of_ble_eq_true rfl, Nat.le_of_ble_eq_true rfl⟩) (g_rHist C hW_94 hS_91 [.ref (ad G 0)]) rfl rfl hl_21.1 rfl (lv_room (Nat.le_of_ble_eq_true rfl)) dX7_performScript_70 ⟨Nat.zero_le _, Nat.zero_le _⟩) hS_91 (fun Y_99 H_100 locs_101 hW_102 hS_103 h_98 => ?_)
          rw [show (setRow (setRow X (sp + 1) (cpPlantR (X.1 (sp + 1)) (X.1 0))) 0 w_93).1 (sp + 1) = cpPlantR (X.1 (sp + 1)) (X.1 0) from (rd_in (by omega) rd_out)] at h_98
          obtain ⟨w_104, ew_104⟩ : ∃ Z9, Z9 = cpPlantR w_93 (cpPlantR (X.1 (sp + 1)) (X.1 0)) := ⟨_, rfl⟩
          have hW_105 : Wd G (setRow (setRow X (sp + 1) (cpPlantR (X.1 (sp + 1)) (X.1 0))) 0 w_104) H_100 := Wd.cast (by rw [h_98, ew_104]; exact ((congrArg (fun Z9 => setRow (setRow (setRow X (sp + 1) (cpPlantR (X.1 (sp + 1)) (X.1 0))) 0 w_93) 0 (cpPlantR Z9 (cpPlantR (X.1 (sp + 1)) (X.1 0)))) rd_out).trans sr_out)) hW_102
          refine lv_iload_n hx hb dX7_performScript_73 rfl (lv_at hl_21 1 rfl) ?_
          exact g_iret C hr hlk hW_105 hS_103 dX7_performScript_74 (by subst ew_104; subst ew_93; exact ⟨by rw [← hf, psL, hcI, if_neg b_95], by rw [← hf, psL, hcI, if_neg b_95]⟩)
      · refine lv_aload_n hx hb dX7_performScript_47 rfl (lv_at hl_21 0 rfl) ?_
        refine lv_iconst (v := 0) hx hb dX7_performScript_48 (by decide) ?_
        refine g_argld C hW (show kk < 60 by omega) 0 (by decide) (vlit (by decide)) dX7_performScript_49 ?_
        refine g_top (y := X.1 14 (3 * kk + 0)) (congrFun (rd_in (by decide) (rd_in (by omega) rfl)) _) ?_
        refine lv_aload_n hx hb dX7_performScript_50 rfl (lv_at hl_21 0 rfl) ?_
        refine lv_iconst (v := 1) hx hb dX7_performScript_51 (by decide) ?_
        refine g_argld C hW (show kk < 60 by omega) 1 (by decide) (vlit (by decide)) dX7_performScript_52 ?_
        refine g_top (y := X.1 14 (3 * kk + 1)) (congrFun (rd_in (by decide) (rd_in (by omega) rfl)) _) ?_
        refine lv_aload_n hx hb dX7_performScript_53 rfl (lv_at hl_21 0 rfl) ?_
        refine lv_iconst (v := 2) hx hb dX7_performScript_54 (by decide) ?_
        refine g_argld C hW (show kk < 60 by omega) 2 (by decide) (vlit (by decide)) dX7_performScript_55 ?_
        refine g_top (y := X.1 14 (3 * kk + 2)) (congrFun (rd_in (by decide) (rd_in (by omega) rfl)) _) ?_
        refine g_calli (va_runV (As := [.ref (cy G (20 + 4)), .int (X.1 14 (3 * kk + 0)), .int (X.1 14 (3 * kk + 1)), .int (X.1 14 (3 * kk + 2))]) (rest := []) C.1 (cX4_perform4_ok l G (setRow (setRow X (sp + 1) (cpPlantR (X.1 (sp + 1)) (X.1 0))) 0 zz) 0 h0_11 (show PInv ((setRow (setRow X (sp + 1) (cpPlantR (X.1 (sp + 1)) (X.1 0))) 0 zz).1 0) from by rw [show (setRow (setRow X (sp + 1) (cpPlantR (X.1 (sp + 1)) (X.1 0))) 0 zz).1 0 = zz from rd_out]; exact hz) (X.1 14 (3 * kk + 0)) (X.1 14 (3 * kk + 1)) (X.1 14 (3 * kk + 2))) (cwV 4 C.1.2.2.2.2 (gV qw_809 qw_810 qw_811 qw_72 qw_812) rfl rfl rfl (by decide +kernel) ⟨Nat.le_of_ble_eq_true rfl, Nat.le_of_ble_eq_true rfl⟩) (g_rPlant C hW hS h0_11 [.ref (cy G (20 + 4)), .int (X.1 14 (3 * kk + 0)), .int (X.1 14 (3 * kk + 1)), .int (X.1 14 (3 * kk + 2))]) rfl rfl hl_21.1 rfl (lv_room (Nat.le_of_ble_eq_true rfl)) dX7_performScript_56 ⟨Nat.zero_le _, Nat.zero_le _⟩) hS (fun r_107 Y_108 H_109 locs_110 hW_111 hS_112 h_106 => ?_)
        obtain ⟨h_113, h_106⟩ := h_106
        replace h_113 := h_113.trans (congrArg (fun Z9 => (performR 4 Z9 (X.1 14 (3 * kk + 0)) (X.1 14 (3 * kk + 1)) (X.1 14 (3 * kk + 2))).1) rd_out)
        subst h_113
        obtain ⟨w_114, ew_114⟩ : ∃ Z9, Z9 = (performR 4 zz (X.1 14 (3 * kk + 0)) (X.1 14 (3 * kk + 1)) (X.1 14 (3 * kk + 2))).2 := ⟨_, rfl⟩
        have hW_115 : Wd G (setRow (setRow X (sp + 1) (cpPlantR (X.1 (sp + 1)) (X.1 0))) 0 w_114) H_109 := Wd.cast (by rw [h_106, ew_114]; exact ((congrArg (fun Z9 => setRow (setRow (setRow X (sp + 1) (cpPlantR (X.1 (sp + 1)) (X.1 0))) 0 zz) 0 ((performR 4 Z9 (X.1 14 (3 * kk + 0)) (X.1 14 (3 * kk + 1)) (X.1 14 (3 * kk + 2))).2)) rd_out).trans sr_out)) hW_111
        refine lv_if_ge (tgt := 75) hx hb dX7_performScript_59 (by decide) (fun b_116 => ?_) (fun b_116 => ?_)
        · refine lv_iinc (v := nI (kk + 1)) (lv' := [(1, .int (nI (kk + 1))), (2, .ref (ad G (738 + kk))), (0, .ref (ad G 715))]) hx hb dX7_performScript_75 hl_21 (k := 1) rfl (nI_1 kk) (by decide) rfl (fun ls_117 hl_118 => ?_)
          refine lv_goto (tgt := 13) hx hb dX7_performScript_78 (by decide) ?_
          exact ih (kk + 1) w_114 H_109 locs_110 ls_117 (by omega) (by subst ew_114; exact perf_inv hz _) (by subst ew_114; rw [← hf, psL, hcI, if_pos b_116]) hW_115 hS_112 (lv_sub hl_118 [0, 2] rfl)
        · refine lv_aload_n hx hb dX7_performScript_62 rfl (lv_at hl_21 2 rfl) ?_
          refine gF_history C hW_115 (hwc hwX7) (mc qw_288) dX7_performScript_63 ?_
          refine lv_aload_n hx hb dX7_performScript_66 rfl (lv_at hl_21 2 rfl) ?_
          refine gF_plant C hW_115 (hwc hwX7) (mc qw_287) dX7_performScript_67 ?_
          refine g_callv (va_runV (As := [.ref (ad G 0)]) (rest := []) C.1 (cX2_takeBack_ok l G (setRow (setRow X (sp + 1) (cpPlantR (X.1 (sp + 1)) (X.1 0))) 0 w_114) sp hsp ((congrFun (rd_in (by decide) (rd_in (by omega) rfl)) _).trans es)) (cwV 1 C.1.2.2.2.2 (gV qw_1423 qw_1424 qw_1425 qw_75 qw_1426) rfl rfl rfl (by decide +kernel) ⟨Nat.le_of_ble_eq_true rfl, Nat.le_of_ble_eq_true rfl⟩) (g_rHist C hW_115 hS_112 [.ref (ad G 0)]) rfl rfl hl_21.1 rfl (lv_room (Nat.le_of_ble_eq_true rfl)) dX7_performScript_70 ⟨Nat.zero_le _, Nat.zero_le _⟩) hS_112 (fun Y_120 H_121 locs_122 hW_123 hS_124 h_119 => ?_)
          rw [show (setRow (setRow X (sp + 1) (cpPlantR (X.1 (sp + 1)) (X.1 0))) 0 w_114).1 (sp + 1) = cpPlantR (X.1 (sp + 1)) (X.1 0) from (rd_in (by omega) rd_out)] at h_119
          obtain ⟨w_125, ew_125⟩ : ∃ Z9, Z9 = cpPlantR w_114 (cpPlantR (X.1 (sp + 1)) (X.1 0)) := ⟨_, rfl⟩
          have hW_126 : Wd G (setRow (setRow X (sp + 1) (cpPlantR (X.1 (sp + 1)) (X.1 0))) 0 w_125) H_121 := Wd.cast (by rw [h_119, ew_125]; exact ((congrArg (fun Z9 => setRow (setRow (setRow X (sp + 1) (cpPlantR (X.1 (sp + 1)) (X.1 0))) 0 w_114) 0 (cpPlantR Z9 (cpPlantR (X.1 (sp + 1)) (X.1 0)))) rd_out).trans sr_out)) hW_123
          refine lv_iload_n hx hb dX7_performScript_73 rfl (lv_at hl_21 1 rfl) ?_
          exact g_iret C hr hlk hW_126 hS_124 dX7_performScript_74 (by subst ew_125; subst ew_114; exact ⟨by rw [← hf, psL, hcI, if_neg b_116], by rw [← hf, psL, hcI, if_neg b_116]⟩)
      · refine lv_aload_n hx hb dX7_performScript_47 rfl (lv_at hl_21 0 rfl) ?_
        refine lv_iconst (v := 0) hx hb dX7_performScript_48 (by decide) ?_
        refine g_argld C hW (show kk < 60 by omega) 0 (by decide) (vlit (by decide)) dX7_performScript_49 ?_
        refine g_top (y := X.1 14 (3 * kk + 0)) (congrFun (rd_in (by decide) (rd_in (by omega) rfl)) _) ?_
        refine lv_aload_n hx hb dX7_performScript_50 rfl (lv_at hl_21 0 rfl) ?_
        refine lv_iconst (v := 1) hx hb dX7_performScript_51 (by decide) ?_
        refine g_argld C hW (show kk < 60 by omega) 1 (by decide) (vlit (by decide)) dX7_performScript_52 ?_
        refine g_top (y := X.1 14 (3 * kk + 1)) (congrFun (rd_in (by decide) (rd_in (by omega) rfl)) _) ?_
        refine lv_aload_n hx hb dX7_performScript_53 rfl (lv_at hl_21 0 rfl) ?_
        refine lv_iconst (v := 2) hx hb dX7_performScript_54 (by decide) ?_
        refine g_argld C hW (show kk < 60 by omega) 2 (by decide) (vlit (by decide)) dX7_performScript_55 ?_
        refine g_top (y := X.1 14 (3 * kk + 2)) (congrFun (rd_in (by decide) (rd_in (by omega) rfl)) _) ?_
        refine g_calli (va_runV (As := [.ref (cy G (20 + 5)), .int (X.1 14 (3 * kk + 0)), .int (X.1 14 (3 * kk + 1)), .int (X.1 14 (3 * kk + 2))]) (rest := []) C.1 (cX4_perform5_ok l G (setRow (setRow X (sp + 1) (cpPlantR (X.1 (sp + 1)) (X.1 0))) 0 zz) 0 h0_11 (show PInv ((setRow (setRow X (sp + 1) (cpPlantR (X.1 (sp + 1)) (X.1 0))) 0 zz).1 0) from by rw [show (setRow (setRow X (sp + 1) (cpPlantR (X.1 (sp + 1)) (X.1 0))) 0 zz).1 0 = zz from rd_out]; exact hz) (X.1 14 (3 * kk + 0)) (X.1 14 (3 * kk + 1)) (X.1 14 (3 * kk + 2))) (cwV 4 C.1.2.2.2.2 (gV qw_809 qw_810 qw_811 qw_72 qw_812) rfl rfl rfl (by decide +kernel) ⟨Nat.le_of_ble_eq_true rfl, Nat.le_of_ble_eq_true rfl⟩) (g_rPlant C hW hS h0_11 [.ref (cy G (20 + 5)), .int (X.1 14 (3 * kk + 0)), .int (X.1 14 (3 * kk + 1)), .int (X.1 14 (3 * kk + 2))]) rfl rfl hl_21.1 rfl (lv_room (Nat.le_of_ble_eq_true rfl)) dX7_performScript_56 ⟨Nat.zero_le _, Nat.zero_le _⟩) hS (fun r_128 Y_129 H_130 locs_131 hW_132 hS_133 h_127 => ?_)
        obtain ⟨h_134, h_127⟩ := h_127
        replace h_134 := h_134.trans (congrArg (fun Z9 => (performR 5 Z9 (X.1 14 (3 * kk + 0)) (X.1 14 (3 * kk + 1)) (X.1 14 (3 * kk + 2))).1) rd_out)
        subst h_134
        obtain ⟨w_135, ew_135⟩ : ∃ Z9, Z9 = (performR 5 zz (X.1 14 (3 * kk + 0)) (X.1 14 (3 * kk + 1)) (X.1 14 (3 * kk + 2))).2 := ⟨_, rfl⟩
        have hW_136 : Wd G (setRow (setRow X (sp + 1) (cpPlantR (X.1 (sp + 1)) (X.1 0))) 0 w_135) H_130 := Wd.cast (by rw [h_127, ew_135]; exact ((congrArg (fun Z9 => setRow (setRow (setRow X (sp + 1) (cpPlantR (X.1 (sp + 1)) (X.1 0))) 0 zz) 0 ((performR 5 Z9 (X.1 14 (3 * kk + 0)) (X.1 14 (3 * kk + 1)) (X.1 14 (3 * kk + 2))).2)) rd_out).trans sr_out)) hW_132
        refine lv_if_ge (tgt := 75) hx hb dX7_performScript_59 (by decide) (fun b_137 => ?_) (fun b_137 => ?_)
        · refine lv_iinc (v := nI (kk + 1)) (lv' := [(1, .int (nI (kk + 1))), (2, .ref (ad G (738 + kk))), (0, .ref (ad G 715))]) hx hb dX7_performScript_75 hl_21 (k := 1) rfl (nI_1 kk) (by decide) rfl (fun ls_138 hl_139 => ?_)
          refine lv_goto (tgt := 13) hx hb dX7_performScript_78 (by decide) ?_
          exact ih (kk + 1) w_135 H_130 locs_131 ls_138 (by omega) (by subst ew_135; exact perf_inv hz _) (by subst ew_135; rw [← hf, psL, hcI, if_pos b_137]) hW_136 hS_133 (lv_sub hl_139 [0, 2] rfl)
        · refine lv_aload_n hx hb dX7_performScript_62 rfl (lv_at hl_21 2 rfl) ?_
          refine gF_history C hW_136 (hwc hwX7) (mc qw_288) dX7_performScript_63 ?_
          refine lv_aload_n hx hb dX7_performScript_66 rfl (lv_at hl_21 2 rfl) ?_
          refine gF_plant C hW_136 (hwc hwX7) (mc qw_287) dX7_performScript_67 ?_
          refine g_callv (va_runV (As := [.ref (ad G 0)]) (rest := []) C.1 (cX2_takeBack_ok l G (setRow (setRow X (sp + 1) (cpPlantR (X.1 (sp + 1)) (X.1 0))) 0 w_135) sp hsp ((congrFun (rd_in (by decide) (rd_in (by omega) rfl)) _).trans es)) (cwV 1 C.1.2.2.2.2 (gV qw_1423 qw_1424 qw_1425 qw_75 qw_1426) rfl rfl rfl (by decide +kernel) ⟨Nat.le_of_ble_eq_true rfl, Nat.le_of_ble_eq_true rfl⟩) (g_rHist C hW_136 hS_133 [.ref (ad G 0)]) rfl rfl hl_21.1 rfl (lv_room (Nat.le_of_ble_eq_true rfl)) dX7_performScript_70 ⟨Nat.zero_le _, Nat.zero_le _⟩) hS_133 (fun Y_141 H_142 locs_143 hW_144 hS_145 h_140 => ?_)
          rw [show (setRow (setRow X (sp + 1) (cpPlantR (X.1 (sp + 1)) (X.1 0))) 0 w_135).1 (sp + 1) = cpPlantR (X.1 (sp + 1)) (X.1 0) from (rd_in (by omega) rd_out)] at h_140
          obtain ⟨w_146, ew_146⟩ : ∃ Z9, Z9 = cpPlantR w_135 (cpPlantR (X.1 (sp + 1)) (X.1 0)) := ⟨_, rfl⟩
          have hW_147 : Wd G (setRow (setRow X (sp + 1) (cpPlantR (X.1 (sp + 1)) (X.1 0))) 0 w_146) H_142 := Wd.cast (by rw [h_140, ew_146]; exact ((congrArg (fun Z9 => setRow (setRow (setRow X (sp + 1) (cpPlantR (X.1 (sp + 1)) (X.1 0))) 0 w_135) 0 (cpPlantR Z9 (cpPlantR (X.1 (sp + 1)) (X.1 0)))) rd_out).trans sr_out)) hW_144
          refine lv_iload_n hx hb dX7_performScript_73 rfl (lv_at hl_21 1 rfl) ?_
          exact g_iret C hr hlk hW_147 hS_145 dX7_performScript_74 (by subst ew_146; subst ew_135; exact ⟨by rw [← hf, psL, hcI, if_neg b_137], by rw [← hf, psL, hcI, if_neg b_137]⟩)
      · refine lv_aload_n hx hb dX7_performScript_47 rfl (lv_at hl_21 0 rfl) ?_
        refine lv_iconst (v := 0) hx hb dX7_performScript_48 (by decide) ?_
        refine g_argld C hW (show kk < 60 by omega) 0 (by decide) (vlit (by decide)) dX7_performScript_49 ?_
        refine g_top (y := X.1 14 (3 * kk + 0)) (congrFun (rd_in (by decide) (rd_in (by omega) rfl)) _) ?_
        refine lv_aload_n hx hb dX7_performScript_50 rfl (lv_at hl_21 0 rfl) ?_
        refine lv_iconst (v := 1) hx hb dX7_performScript_51 (by decide) ?_
        refine g_argld C hW (show kk < 60 by omega) 1 (by decide) (vlit (by decide)) dX7_performScript_52 ?_
        refine g_top (y := X.1 14 (3 * kk + 1)) (congrFun (rd_in (by decide) (rd_in (by omega) rfl)) _) ?_
        refine lv_aload_n hx hb dX7_performScript_53 rfl (lv_at hl_21 0 rfl) ?_
        refine lv_iconst (v := 2) hx hb dX7_performScript_54 (by decide) ?_
        refine g_argld C hW (show kk < 60 by omega) 2 (by decide) (vlit (by decide)) dX7_performScript_55 ?_
        refine g_top (y := X.1 14 (3 * kk + 2)) (congrFun (rd_in (by decide) (rd_in (by omega) rfl)) _) ?_
        refine g_calli (va_runV (As := [.ref (cy G (20 + 6)), .int (X.1 14 (3 * kk + 0)), .int (X.1 14 (3 * kk + 1)), .int (X.1 14 (3 * kk + 2))]) (rest := []) C.1 (cX4_perform6_ok l G (setRow (setRow X (sp + 1) (cpPlantR (X.1 (sp + 1)) (X.1 0))) 0 zz) 0 h0_11 (show PInv ((setRow (setRow X (sp + 1) (cpPlantR (X.1 (sp + 1)) (X.1 0))) 0 zz).1 0) from by rw [show (setRow (setRow X (sp + 1) (cpPlantR (X.1 (sp + 1)) (X.1 0))) 0 zz).1 0 = zz from rd_out]; exact hz) (X.1 14 (3 * kk + 0)) (X.1 14 (3 * kk + 1)) (X.1 14 (3 * kk + 2))) (cwV 4 C.1.2.2.2.2 (gV qw_809 qw_810 qw_811 qw_72 qw_812) rfl rfl rfl (by decide +kernel) ⟨Nat.le_of_ble_eq_true rfl, Nat.le_of_ble_eq_true rfl⟩) (g_rPlant C hW hS h0_11 [.ref (cy G (20 + 6)), .int (X.1 14 (3 * kk + 0)), .int (X.1 14 (3 * kk + 1)), .int (X.1 14 (3 * kk + 2))]) rfl rfl hl_21.1 rfl (lv_room (Nat.le_of_ble_eq_true rfl)) dX7_performScript_56 ⟨Nat.zero_le _, Nat.zero_le _⟩) hS (fun r_149 Y_150 H_151 locs_152 hW_153 hS_154 h_148 => ?_)
        obtain ⟨h_155, h_148⟩ := h_148
        replace h_155 := h_155.trans (congrArg (fun Z9 => (performR 6 Z9 (X.1 14 (3 * kk + 0)) (X.1 14 (3 * kk + 1)) (X.1 14 (3 * kk + 2))).1) rd_out)
        subst h_155
        obtain ⟨w_156, ew_156⟩ : ∃ Z9, Z9 = (performR 6 zz (X.1 14 (3 * kk + 0)) (X.1 14 (3 * kk + 1)) (X.1 14 (3 * kk + 2))).2 := ⟨_, rfl⟩
        have hW_157 : Wd G (setRow (setRow X (sp + 1) (cpPlantR (X.1 (sp + 1)) (X.1 0))) 0 w_156) H_151 := Wd.cast (by rw [h_148, ew_156]; exact ((congrArg (fun Z9 => setRow (setRow (setRow X (sp + 1) (cpPlantR (X.1 (sp + 1)) (X.1 0))) 0 zz) 0 ((performR 6 Z9 (X.1 14 (3 * kk + 0)) (X.1 14 (3 * kk + 1)) (X.1 14 (3 * kk + 2))).2)) rd_out).trans sr_out)) hW_153
        refine lv_if_ge (tgt := 75) hx hb dX7_performScript_59 (by decide) (fun b_158 => ?_) (fun b_158 => ?_)
        · refine lv_iinc (v := nI (kk + 1)) (lv' := [(1, .int (nI (kk + 1))), (2, .ref (ad G (738 + kk))), (0, .ref (ad G 715))]) hx hb dX7_performScript_75 hl_21 (k := 1) rfl (nI_1 kk) (by decide) rfl (fun ls_159 hl_160 => ?_)
          refine lv_goto (tgt := 13) hx hb dX7_performScript_78 (by decide) ?_
          exact ih (kk + 1) w_156 H_151 locs_152 ls_159 (by omega) (by subst ew_156; exact perf_inv hz _) (by subst ew_156; rw [← hf, psL, hcI, if_pos b_158]) hW_157 hS_154 (lv_sub hl_160 [0, 2] rfl)
        · refine lv_aload_n hx hb dX7_performScript_62 rfl (lv_at hl_21 2 rfl) ?_
          refine gF_history C hW_157 (hwc hwX7) (mc qw_288) dX7_performScript_63 ?_
          refine lv_aload_n hx hb dX7_performScript_66 rfl (lv_at hl_21 2 rfl) ?_
          refine gF_plant C hW_157 (hwc hwX7) (mc qw_287) dX7_performScript_67 ?_
          refine g_callv (va_runV (As := [.ref (ad G 0)]) (rest := []) C.1 (cX2_takeBack_ok l G (setRow (setRow X (sp + 1) (cpPlantR (X.1 (sp + 1)) (X.1 0))) 0 w_156) sp hsp ((congrFun (rd_in (by decide) (rd_in (by omega) rfl)) _).trans es)) (cwV 1 C.1.2.2.2.2 (gV qw_1423 qw_1424 qw_1425 qw_75 qw_1426) rfl rfl rfl (by decide +kernel) ⟨Nat.le_of_ble_eq_true rfl, Nat.le_of_ble_eq_true rfl⟩) (g_rHist C hW_157 hS_154 [.ref (ad G 0)]) rfl rfl hl_21.1 rfl (lv_room (Nat.le_of_ble_eq_true rfl)) dX7_performScript_70 ⟨Nat.zero_le _, Nat.zero_le _⟩) hS_154 (fun Y_162 H_163 locs_164 hW_165 hS_166 h_161 => ?_)
          rw [show (setRow (setRow X (sp + 1) (cpPlantR (X.1 (sp + 1)) (X.1 0))) 0 w_156).1 (sp + 1) = cpPlantR (X.1 (sp + 1)) (X.1 0) from (rd_in (by omega) rd_out)] at h_161
          obtain ⟨w_167, ew_167⟩ : ∃ Z9, Z9 = cpPlantR w_156 (cpPlantR (X.1 (sp + 1)) (X.1 0)) := ⟨_, rfl⟩
          have hW_168 : Wd G (setRow (setRow X (sp + 1) (cpPlantR (X.1 (sp + 1)) (X.1 0))) 0 w_167) H_163 := Wd.cast (by rw [h_161, ew_167]; exact ((congrArg (fun Z9 => setRow (setRow (setRow X (sp + 1) (cpPlantR (X.1 (sp + 1)) (X.1 0))) 0 w_156) 0 (cpPlantR Z9 (cpPlantR (X.1 (sp + 1)) (X.1 0)))) rd_out).trans sr_out)) hW_165
          refine lv_iload_n hx hb dX7_performScript_73 rfl (lv_at hl_21 1 rfl) ?_
          exact g_iret C hr hlk hW_168 hS_166 dX7_performScript_74 (by subst ew_167; subst ew_156; exact ⟨by rw [← hf, psL, hcI, if_neg b_158], by rw [← hf, psL, hcI, if_neg b_158]⟩)
      · refine lv_aload_n hx hb dX7_performScript_47 rfl (lv_at hl_21 0 rfl) ?_
        refine lv_iconst (v := 0) hx hb dX7_performScript_48 (by decide) ?_
        refine g_argld C hW (show kk < 60 by omega) 0 (by decide) (vlit (by decide)) dX7_performScript_49 ?_
        refine g_top (y := X.1 14 (3 * kk + 0)) (congrFun (rd_in (by decide) (rd_in (by omega) rfl)) _) ?_
        refine lv_aload_n hx hb dX7_performScript_50 rfl (lv_at hl_21 0 rfl) ?_
        refine lv_iconst (v := 1) hx hb dX7_performScript_51 (by decide) ?_
        refine g_argld C hW (show kk < 60 by omega) 1 (by decide) (vlit (by decide)) dX7_performScript_52 ?_
        refine g_top (y := X.1 14 (3 * kk + 1)) (congrFun (rd_in (by decide) (rd_in (by omega) rfl)) _) ?_
        refine lv_aload_n hx hb dX7_performScript_53 rfl (lv_at hl_21 0 rfl) ?_
        refine lv_iconst (v := 2) hx hb dX7_performScript_54 (by decide) ?_
        refine g_argld C hW (show kk < 60 by omega) 2 (by decide) (vlit (by decide)) dX7_performScript_55 ?_
        refine g_top (y := X.1 14 (3 * kk + 2)) (congrFun (rd_in (by decide) (rd_in (by omega) rfl)) _) ?_
        refine g_calli (va_runV (As := [.ref (cy G (20 + 7)), .int (X.1 14 (3 * kk + 0)), .int (X.1 14 (3 * kk + 1)), .int (X.1 14 (3 * kk + 2))]) (rest := []) C.1 (cX4_perform7_ok l G (setRow (setRow X (sp + 1) (cpPlantR (X.1 (sp + 1)) (X.1 0))) 0 zz) 0 h0_11 (show PInv ((setRow (setRow X (sp + 1) (cpPlantR (X.1 (sp + 1)) (X.1 0))) 0 zz).1 0) from by rw [show (setRow (setRow X (sp + 1) (cpPlantR (X.1 (sp + 1)) (X.1 0))) 0 zz).1 0 = zz from rd_out]; exact hz) (X.1 14 (3 * kk + 0)) (X.1 14 (3 * kk + 1)) (X.1 14 (3 * kk + 2))) (cwV 4 C.1.2.2.2.2 (gV qw_809 qw_810 qw_811 qw_72 qw_812) rfl rfl rfl (by decide +kernel) ⟨Nat.le_of_ble_eq_true rfl, Nat.le_of_ble_eq_true rfl⟩) (g_rPlant C hW hS h0_11 [.ref (cy G (20 + 7)), .int (X.1 14 (3 * kk + 0)), .int (X.1 14 (3 * kk + 1)), .int (X.1 14 (3 * kk + 2))]) rfl rfl hl_21.1 rfl (lv_room (Nat.le_of_ble_eq_true rfl)) dX7_performScript_56 ⟨Nat.zero_le _, Nat.zero_le _⟩) hS (fun r_170 Y_171 H_172 locs_173 hW_174 hS_175 h_169 => ?_)
        obtain ⟨h_176, h_169⟩ := h_169
        replace h_176 := h_176.trans (congrArg (fun Z9 => (performR 7 Z9 (X.1 14 (3 * kk + 0)) (X.1 14 (3 * kk + 1)) (X.1 14 (3 * kk + 2))).1) rd_out)
        subst h_176
        obtain ⟨w_177, ew_177⟩ : ∃ Z9, Z9 = (performR 7 zz (X.1 14 (3 * kk + 0)) (X.1 14 (3 * kk + 1)) (X.1 14 (3 * kk + 2))).2 := ⟨_, rfl⟩
        have hW_178 : Wd G (setRow (setRow X (sp + 1) (cpPlantR (X.1 (sp + 1)) (X.1 0))) 0 w_177) H_172 := Wd.cast (by rw [h_169, ew_177]; exact ((congrArg (fun Z9 => setRow (setRow (setRow X (sp + 1) (cpPlantR (X.1 (sp + 1)) (X.1 0))) 0 zz) 0 ((performR 7 Z9 (X.1 14 (3 * kk + 0)) (X.1 14 (3 * kk + 1)) (X.1 14 (3 * kk + 2))).2)) rd_out).trans sr_out)) hW_174
        refine lv_if_ge (tgt := 75) hx hb dX7_performScript_59 (by decide) (fun b_179 => ?_) (fun b_179 => ?_)
        · refine lv_iinc (v := nI (kk + 1)) (lv' := [(1, .int (nI (kk + 1))), (2, .ref (ad G (738 + kk))), (0, .ref (ad G 715))]) hx hb dX7_performScript_75 hl_21 (k := 1) rfl (nI_1 kk) (by decide) rfl (fun ls_180 hl_181 => ?_)
          refine lv_goto (tgt := 13) hx hb dX7_performScript_78 (by decide) ?_
          exact ih (kk + 1) w_177 H_172 locs_173 ls_180 (by omega) (by subst ew_177; exact perf_inv hz _) (by subst ew_177; rw [← hf, psL, hcI, if_pos b_179]) hW_178 hS_175 (lv_sub hl_181 [0, 2] rfl)
        · refine lv_aload_n hx hb dX7_performScript_62 rfl (lv_at hl_21 2 rfl) ?_
          refine gF_history C hW_178 (hwc hwX7) (mc qw_288) dX7_performScript_63 ?_
          refine lv_aload_n hx hb dX7_performScript_66 rfl (lv_at hl_21 2 rfl) ?_
          refine gF_plant C hW_178 (hwc hwX7) (mc qw_287) dX7_performScript_67 ?_
          refine g_callv (va_runV (As := [.ref (ad G 0)]) (rest := []) C.1 (cX2_takeBack_ok l G (setRow (setRow X (sp + 1) (cpPlantR (X.1 (sp + 1)) (X.1 0))) 0 w_177) sp hsp ((congrFun (rd_in (by decide) (rd_in (by omega) rfl)) _).trans es)) (cwV 1 C.1.2.2.2.2 (gV qw_1423 qw_1424 qw_1425 qw_75 qw_1426) rfl rfl rfl (by decide +kernel) ⟨Nat.le_of_ble_eq_true rfl, Nat.le_of_ble_eq_true rfl⟩) (g_rHist C hW_178 hS_175 [.ref (ad G 0)]) rfl rfl hl_21.1 rfl (lv_room (Nat.le_of_ble_eq_true rfl)) dX7_performScript_70 ⟨Nat.zero_le _, Nat.zero_le _⟩) hS_175 (fun Y_183 H_184 locs_185 hW_186 hS_187 h_182 => ?_)
          rw [show (setRow (setRow X (sp + 1) (cpPlantR (X.1 (sp + 1)) (X.1 0))) 0 w_177).1 (sp + 1) = cpPlantR (X.1 (sp + 1)) (X.1 0) from (rd_in (by omega) rd_out)] at h_182
          obtain ⟨w_188, ew_188⟩ : ∃ Z9, Z9 = cpPlantR w_177 (cpPlantR (X.1 (sp + 1)) (X.1 0)) := ⟨_, rfl⟩
          have hW_189 : Wd G (setRow (setRow X (sp + 1) (cpPlantR (X.1 (sp + 1)) (X.1 0))) 0 w_188) H_184 := Wd.cast (by rw [h_182, ew_188]; exact ((congrArg (fun Z9 => setRow (setRow (setRow X (sp + 1) (cpPlantR (X.1 (sp + 1)) (X.1 0))) 0 w_177) 0 (cpPlantR Z9 (cpPlantR (X.1 (sp + 1)) (X.1 0)))) rd_out).trans sr_out)) hW_186
          refine lv_iload_n hx hb dX7_performScript_73 rfl (lv_at hl_21 1 rfl) ?_
          exact g_iret C hr hlk hW_189 hS_187 dX7_performScript_74 (by subst ew_188; subst ew_177; exact ⟨by rw [← hf, psL, hcI, if_neg b_179], by rw [← hf, psL, hcI, if_neg b_179]⟩)
      · refine lv_aload_n hx hb dX7_performScript_47 rfl (lv_at hl_21 0 rfl) ?_
        refine lv_iconst (v := 0) hx hb dX7_performScript_48 (by decide) ?_
        refine g_argld C hW (show kk < 60 by omega) 0 (by decide) (vlit (by decide)) dX7_performScript_49 ?_
        refine g_top (y := X.1 14 (3 * kk + 0)) (congrFun (rd_in (by decide) (rd_in (by omega) rfl)) _) ?_
        refine lv_aload_n hx hb dX7_performScript_50 rfl (lv_at hl_21 0 rfl) ?_
        refine lv_iconst (v := 1) hx hb dX7_performScript_51 (by decide) ?_
        refine g_argld C hW (show kk < 60 by omega) 1 (by decide) (vlit (by decide)) dX7_performScript_52 ?_
        refine g_top (y := X.1 14 (3 * kk + 1)) (congrFun (rd_in (by decide) (rd_in (by omega) rfl)) _) ?_
        refine lv_aload_n hx hb dX7_performScript_53 rfl (lv_at hl_21 0 rfl) ?_
        refine lv_iconst (v := 2) hx hb dX7_performScript_54 (by decide) ?_
        refine g_argld C hW (show kk < 60 by omega) 2 (by decide) (vlit (by decide)) dX7_performScript_55 ?_
        refine g_top (y := X.1 14 (3 * kk + 2)) (congrFun (rd_in (by decide) (rd_in (by omega) rfl)) _) ?_
        refine g_calli (va_runV (As := [.ref (cy G (20 + 8)), .int (X.1 14 (3 * kk + 0)), .int (X.1 14 (3 * kk + 1)), .int (X.1 14 (3 * kk + 2))]) (rest := []) C.1 (cX4_perform8_ok l G (setRow (setRow X (sp + 1) (cpPlantR (X.1 (sp + 1)) (X.1 0))) 0 zz) 0 h0_11 (show PInv ((setRow (setRow X (sp + 1) (cpPlantR (X.1 (sp + 1)) (X.1 0))) 0 zz).1 0) from by rw [show (setRow (setRow X (sp + 1) (cpPlantR (X.1 (sp + 1)) (X.1 0))) 0 zz).1 0 = zz from rd_out]; exact hz) (X.1 14 (3 * kk + 0)) (X.1 14 (3 * kk + 1)) (X.1 14 (3 * kk + 2))) (cwV 4 C.1.2.2.2.2 (gV qw_809 qw_810 qw_811 qw_72 qw_812) rfl rfl rfl (by decide +kernel) ⟨Nat.le_of_ble_eq_true rfl, Nat.le_of_ble_eq_true rfl⟩) (g_rPlant C hW hS h0_11 [.ref (cy G (20 + 8)), .int (X.1 14 (3 * kk + 0)), .int (X.1 14 (3 * kk + 1)), .int (X.1 14 (3 * kk + 2))]) rfl rfl hl_21.1 rfl (lv_room (Nat.le_of_ble_eq_true rfl)) dX7_performScript_56 ⟨Nat.zero_le _, Nat.zero_le _⟩) hS (fun r_191 Y_192 H_193 locs_194 hW_195 hS_196 h_190 => ?_)
        obtain ⟨h_197, h_190⟩ := h_190
        replace h_197 := h_197.trans (congrArg (fun Z9 => (performR 8 Z9 (X.1 14 (3 * kk + 0)) (X.1 14 (3 * kk + 1)) (X.1 14 (3 * kk + 2))).1) rd_out)
        subst h_197
        obtain ⟨w_198, ew_198⟩ : ∃ Z9, Z9 = (performR 8 zz (X.1 14 (3 * kk + 0)) (X.1 14 (3 * kk + 1)) (X.1 14 (3 * kk + 2))).2 := ⟨_, rfl⟩
        have hW_199 : Wd G (setRow (setRow X (sp + 1) (cpPlantR (X.1 (sp + 1)) (X.1 0))) 0 w_198) H_193 := Wd.cast (by rw [h_190, ew_198]; exact ((congrArg (fun Z9 => setRow (setRow (setRow X (sp + 1) (cpPlantR (X.1 (sp + 1)) (X.1 0))) 0 zz) 0 ((performR 8 Z9 (X.1 14 (3 * kk + 0)) (X.1 14 (3 * kk + 1)) (X.1 14 (3 * kk + 2))).2)) rd_out).trans sr_out)) hW_195
        refine lv_if_ge (tgt := 75) hx hb dX7_performScript_59 (by decide) (fun b_200 => ?_) (fun b_200 => ?_)
        · refine lv_iinc (v := nI (kk + 1)) (lv' := [(1, .int (nI (kk + 1))), (2, .ref (ad G (738 + kk))), (0, .ref (ad G 715))]) hx hb dX7_performScript_75 hl_21 (k := 1) rfl (nI_1 kk) (by decide) rfl (fun ls_201 hl_202 => ?_)
          refine lv_goto (tgt := 13) hx hb dX7_performScript_78 (by decide) ?_
          exact ih (kk + 1) w_198 H_193 locs_194 ls_201 (by omega) (by subst ew_198; exact perf_inv hz _) (by subst ew_198; rw [← hf, psL, hcI, if_pos b_200]) hW_199 hS_196 (lv_sub hl_202 [0, 2] rfl)
        · refine lv_aload_n hx hb dX7_performScript_62 rfl (lv_at hl_21 2 rfl) ?_
          refine gF_history C hW_199 (hwc hwX7) (mc qw_288) dX7_performScript_63 ?_
          refine lv_aload_n hx hb dX7_performScript_66 rfl (lv_at hl_21 2 rfl) ?_
          refine gF_plant C hW_199 (hwc hwX7) (mc qw_287) dX7_performScript_67 ?_
          refine g_callv (va_runV (As := [.ref (ad G 0)]) (rest := []) C.1 (cX2_takeBack_ok l G (setRow (setRow X (sp + 1) (cpPlantR (X.1 (sp + 1)) (X.1 0))) 0 w_198) sp hsp ((congrFun (rd_in (by decide) (rd_in (by omega) rfl)) _).trans es)) (cwV 1 C.1.2.2.2.2 (gV qw_1423 qw_1424 qw_1425 qw_75 qw_1426) rfl rfl rfl (by decide +kernel) ⟨Nat.le_of_ble_eq_true rfl, Nat.le_of_ble_eq_true rfl⟩) (g_rHist C hW_199 hS_196 [.ref (ad G 0)]) rfl rfl hl_21.1 rfl (lv_room (Nat.le_of_ble_eq_true rfl)) dX7_performScript_70 ⟨Nat.zero_le _, Nat.zero_le _⟩) hS_196 (fun Y_204 H_205 locs_206 hW_207 hS_208 h_203 => ?_)
          rw [show (setRow (setRow X (sp + 1) (cpPlantR (X.1 (sp + 1)) (X.1 0))) 0 w_198).1 (sp + 1) = cpPlantR (X.1 (sp + 1)) (X.1 0) from (rd_in (by omega) rd_out)] at h_203
          obtain ⟨w_209, ew_209⟩ : ∃ Z9, Z9 = cpPlantR w_198 (cpPlantR (X.1 (sp + 1)) (X.1 0)) := ⟨_, rfl⟩
          have hW_210 : Wd G (setRow (setRow X (sp + 1) (cpPlantR (X.1 (sp + 1)) (X.1 0))) 0 w_209) H_205 := Wd.cast (by rw [h_203, ew_209]; exact ((congrArg (fun Z9 => setRow (setRow (setRow X (sp + 1) (cpPlantR (X.1 (sp + 1)) (X.1 0))) 0 w_198) 0 (cpPlantR Z9 (cpPlantR (X.1 (sp + 1)) (X.1 0)))) rd_out).trans sr_out)) hW_207
          refine lv_iload_n hx hb dX7_performScript_73 rfl (lv_at hl_21 1 rfl) ?_
          exact g_iret C hr hlk hW_210 hS_208 dX7_performScript_74 (by subst ew_209; subst ew_198; exact ⟨by rw [← hf, psL, hcI, if_neg b_200], by rw [← hf, psL, hcI, if_neg b_200]⟩)
      · refine lv_aload_n hx hb dX7_performScript_47 rfl (lv_at hl_21 0 rfl) ?_
        refine lv_iconst (v := 0) hx hb dX7_performScript_48 (by decide) ?_
        refine g_argld C hW (show kk < 60 by omega) 0 (by decide) (vlit (by decide)) dX7_performScript_49 ?_
        refine g_top (y := X.1 14 (3 * kk + 0)) (congrFun (rd_in (by decide) (rd_in (by omega) rfl)) _) ?_
        refine lv_aload_n hx hb dX7_performScript_50 rfl (lv_at hl_21 0 rfl) ?_
        refine lv_iconst (v := 1) hx hb dX7_performScript_51 (by decide) ?_
        refine g_argld C hW (show kk < 60 by omega) 1 (by decide) (vlit (by decide)) dX7_performScript_52 ?_
        refine g_top (y := X.1 14 (3 * kk + 1)) (congrFun (rd_in (by decide) (rd_in (by omega) rfl)) _) ?_
        refine lv_aload_n hx hb dX7_performScript_53 rfl (lv_at hl_21 0 rfl) ?_
        refine lv_iconst (v := 2) hx hb dX7_performScript_54 (by decide) ?_
        refine g_argld C hW (show kk < 60 by omega) 2 (by decide) (vlit (by decide)) dX7_performScript_55 ?_
        refine g_top (y := X.1 14 (3 * kk + 2)) (congrFun (rd_in (by decide) (rd_in (by omega) rfl)) _) ?_
        refine g_calli (va_runV (As := [.ref (cy G (20 + 9)), .int (X.1 14 (3 * kk + 0)), .int (X.1 14 (3 * kk + 1)), .int (X.1 14 (3 * kk + 2))]) (rest := []) C.1 (cX4_perform9_ok l G (setRow (setRow X (sp + 1) (cpPlantR (X.1 (sp + 1)) (X.1 0))) 0 zz) 0 h0_11 (show PInv ((setRow (setRow X (sp + 1) (cpPlantR (X.1 (sp + 1)) (X.1 0))) 0 zz).1 0) from by rw [show (setRow (setRow X (sp + 1) (cpPlantR (X.1 (sp + 1)) (X.1 0))) 0 zz).1 0 = zz from rd_out]; exact hz) (X.1 14 (3 * kk + 0)) (X.1 14 (3 * kk + 1)) (X.1 14 (3 * kk + 2))) (cwV 4 C.1.2.2.2.2 (gV qw_809 qw_810 qw_811 qw_72 qw_812) rfl rfl rfl (by decide +kernel) ⟨Nat.le_of_ble_eq_true rfl, Nat.le_of_ble_eq_true rfl⟩) (g_rPlant C hW hS h0_11 [.ref (cy G (20 + 9)), .int (X.1 14 (3 * kk + 0)), .int (X.1 14 (3 * kk + 1)), .int (X.1 14 (3 * kk + 2))]) rfl rfl hl_21.1 rfl (lv_room (Nat.le_of_ble_eq_true rfl)) dX7_performScript_56 ⟨Nat.zero_le _, Nat.zero_le _⟩) hS (fun r_212 Y_213 H_214 locs_215 hW_216 hS_217 h_211 => ?_)
        obtain ⟨h_218, h_211⟩ := h_211
        replace h_218 := h_218.trans (congrArg (fun Z9 => (performR 9 Z9 (X.1 14 (3 * kk + 0)) (X.1 14 (3 * kk + 1)) (X.1 14 (3 * kk + 2))).1) rd_out)
        subst h_218
        obtain ⟨w_219, ew_219⟩ : ∃ Z9, Z9 = (performR 9 zz (X.1 14 (3 * kk + 0)) (X.1 14 (3 * kk + 1)) (X.1 14 (3 * kk + 2))).2 := ⟨_, rfl⟩
        have hW_220 : Wd G (setRow (setRow X (sp + 1) (cpPlantR (X.1 (sp + 1)) (X.1 0))) 0 w_219) H_214 := Wd.cast (by rw [h_211, ew_219]; exact ((congrArg (fun Z9 => setRow (setRow (setRow X (sp + 1) (cpPlantR (X.1 (sp + 1)) (X.1 0))) 0 zz) 0 ((performR 9 Z9 (X.1 14 (3 * kk + 0)) (X.1 14 (3 * kk + 1)) (X.1 14 (3 * kk + 2))).2)) rd_out).trans sr_out)) hW_216
        refine lv_if_ge (tgt := 75) hx hb dX7_performScript_59 (by decide) (fun b_221 => ?_) (fun b_221 => ?_)
        · refine lv_iinc (v := nI (kk + 1)) (lv' := [(1, .int (nI (kk + 1))), (2, .ref (ad G (738 + kk))), (0, .ref (ad G 715))]) hx hb dX7_performScript_75 hl_21 (k := 1) rfl (nI_1 kk) (by decide) rfl (fun ls_222 hl_223 => ?_)
          refine lv_goto (tgt := 13) hx hb dX7_performScript_78 (by decide) ?_
          exact ih (kk + 1) w_219 H_214 locs_215 ls_222 (by omega) (by subst ew_219; exact perf_inv hz _) (by subst ew_219; rw [← hf, psL, hcI, if_pos b_221]) hW_220 hS_217 (lv_sub hl_223 [0, 2] rfl)
        · refine lv_aload_n hx hb dX7_performScript_62 rfl (lv_at hl_21 2 rfl) ?_
          refine gF_history C hW_220 (hwc hwX7) (mc qw_288) dX7_performScript_63 ?_
          refine lv_aload_n hx hb dX7_performScript_66 rfl (lv_at hl_21 2 rfl) ?_
          refine gF_plant C hW_220 (hwc hwX7) (mc qw_287) dX7_performScript_67 ?_
          refine g_callv (va_runV (As := [.ref (ad G 0)]) (rest := []) C.1 (cX2_takeBack_ok l G (setRow (setRow X (sp + 1) (cpPlantR (X.1 (sp + 1)) (X.1 0))) 0 w_219) sp hsp ((congrFun (rd_in (by decide) (rd_in (by omega) rfl)) _).trans es)) (cwV 1 C.1.2.2.2.2 (gV qw_1423 qw_1424 qw_1425 qw_75 qw_1426) rfl rfl rfl (by decide +kernel) ⟨Nat.le_of_ble_eq_true rfl, Nat.le_of_ble_eq_true rfl⟩) (g_rHist C hW_220 hS_217 [.ref (ad G 0)]) rfl rfl hl_21.1 rfl (lv_room (Nat.le_of_ble_eq_true rfl)) dX7_performScript_70 ⟨Nat.zero_le _, Nat.zero_le _⟩) hS_217 (fun Y_225 H_226 locs_227 hW_228 hS_229 h_224 => ?_)
          rw [show (setRow (setRow X (sp + 1) (cpPlantR (X.1 (sp + 1)) (X.1 0))) 0 w_219).1 (sp + 1) = cpPlantR (X.1 (sp + 1)) (X.1 0) from (rd_in (by omega) rd_out)] at h_224
          obtain ⟨w_230, ew_230⟩ : ∃ Z9, Z9 = cpPlantR w_219 (cpPlantR (X.1 (sp + 1)) (X.1 0)) := ⟨_, rfl⟩
          have hW_231 : Wd G (setRow (setRow X (sp + 1) (cpPlantR (X.1 (sp + 1)) (X.1 0))) 0 w_230) H_226 := Wd.cast (by rw [h_224, ew_230]; exact ((congrArg (fun Z9 => setRow (setRow (setRow X (sp + 1) (cpPlantR (X.1 (sp + 1)) (X.1 0))) 0 w_219) 0 (cpPlantR Z9 (cpPlantR (X.1 (sp + 1)) (X.1 0)))) rd_out).trans sr_out)) hW_228
          refine lv_iload_n hx hb dX7_performScript_73 rfl (lv_at hl_21 1 rfl) ?_
          exact g_iret C hr hlk hW_231 hS_229 dX7_performScript_74 (by subst ew_230; subst ew_219; exact ⟨by rw [← hf, psL, hcI, if_neg b_221], by rw [← hf, psL, hcI, if_neg b_221]⟩)
  exact loop mm 0 (X.1 0) H_3 locs_4 ls_9 (by omega) hi rfl (Wd.cast (by subst ew_7; exact (sr_same (X := setRow X (sp + 1) (cpPlantR (X.1 (sp + 1)) (X.1 0))) (r := 0) (rd_in (by omega) rfl).symm).symm) hW_8) hS_6 (lv_sub hl_10 [0, 1] rfl)

set_option maxHeartbeats 4000000 in
set_option maxRecDepth 100000 in
theorem cX7_outputAt_ok (l : Launch) (G : GT) (hst : l.stackTraces = false) (X : St) (cp : Nat) (hcp : 16 ≤ cp ∧ cp ≤ 34) (hcap : X.2.2.1 = cp) (hcd : X.1 11 8 = 0) (n : Nat) (hcnt : X.1 11 10 = nI n) (hn : n ≤ cp) (hlt : ∀ j, j < n → ∃ b, b < 128 ∧ X.2.2.2.1 j = nI b) (x : Int32) : MetXI l G 1 yX7_outputAt (wsG yX7_outputAt cX7_outputAt 2 (some .char)) (rmk 1 7 121) [.ref (ad G 715), .int x] X (fun res Y => (sOut x (nI n) = 0 ∧ res = X.2.2.2.1 x.toNatClampNeg) ∧ Y = X) (fun E Y => (E = "java/lang/IndexOutOfBoundsException" ∧ ¬ sOut x (nI n) = 0) ∧ Y = X) := by
  refine g_metX (cc := cX7_outputAt) (maxL := 2) (ret := (some .char)) (by decide) rfl (Nat.le_of_ble_eq_true rfl) ?_
  intro p e s m below meth c ls C hr hlk hex hW hl
  have hx := C.1.1
  have hb := C.1.2.1
  have hS : va_S (Ab G) s.heap s.heap [] := va_S.rf
  have hl : lv_has ls 2 [(0, .ref (ad G 715)), (1, .int x)] := hl
  refine lv_iload_n hx hb dX7_outputAt_0 rfl (lv_at hl 1 rfl) ?_
  refine lv_aload_n hx hb dX7_outputAt_1 rfl (lv_at hl 0 rfl) ?_
  refine gF_output C hW (hwc hwX7) (mc qw_294) dX7_outputAt_2 ?_
  refine g_calli (va_runV (As := []) (rest := [.int x]) C.1 (cJ4_length_8abf5_ok l G X n hcnt) (cwV 0 C.1.2.2.2.2 (gV qw_767 qw_571 qw_1956 qw_78 qw_572) rfl rfl rfl (by decide +kernel) ⟨Nat.le_of_ble_eq_true rfl, Nat.le_of_ble_eq_true rfl⟩) (g_rSB C hW hS []) rfl rfl hl.1 rfl (lv_room (Nat.le_of_ble_eq_true rfl)) dX7_outputAt_5 ⟨by decide, by decide⟩) hS (fun r_3 Y_2 H_4 locs_5 hW_6 hS_7 h_1 => ?_)
  obtain ⟨h_1, hy_8⟩ := h_1
  replace hy_8 := hy_8.symm
  subst hy_8
  subst h_1
  refine g_cxv (vx_runS (As := [.int x, .int (nI n)]) (rest := []) C.1 (cX7_requireIndex_ok l G hst X x (nI n)) (va_cwS 2 C.1.2.2.2.2 (gS qw_1078 qw_1079 qw_71 qw_1080) rfl rfl rfl (by decide +kernel) ⟨Nat.le_of_ble_eq_true rfl, Nat.le_of_ble_eq_true rfl⟩) (g_pre C hW_6 hS_7 [.int x, .int (nI n)]) rfl rfl hl.1 rfl (lv_room (Nat.le_of_ble_eq_true rfl)) dX7_outputAt_8 ⟨by decide, by decide⟩) hS_7 ?_ ?_
  · intro E9 ce9 q9 Y_10 H9 locs9 hW9 hS9 h_9 h91 h92 h93
    obtain ⟨⟨hE_13, b_12⟩, hy_11⟩ := h_9
    replace hy_11 := hy_11.symm
    subst hy_11
    subst hE_13
    exact g_out hex hlk hW9 hS9 (by exact ⟨⟨rfl, b_12⟩, rfl⟩) h91 h92 h93 (by decide) (by decide)
  intro Y_15 H_19 locs_20 hW_17 hS_18 h_14
  obtain ⟨b_22, hy_21⟩ := h_14
  replace hy_21 := hy_21.symm
  subst hy_21
  obtain ⟨f_23, hf_23, rfl⟩ := sOut_in (n := n) (by omega) b_22
  refine lv_aload_n hx hb dX7_outputAt_11 rfl (lv_at hl 0 rfl) ?_
  refine gF_output C hW_17 (hwc hwX7) (mc qw_294) dX7_outputAt_12 ?_
  refine lv_iload_n hx hb dX7_outputAt_15 rfl (lv_at hl 1 rfl) ?_
  obtain ⟨bj, hbj, ebj⟩ := hlt f_23 (by omega)
  refine g_calli (va_runV (As := [.int (nI f_23)]) (rest := []) C.1 (cJ4_charAt_5068e_ok l G X cp hcp hcap hcd n hcnt hn f_23 (by omega) bj ebj hbj) (cwV 1 C.1.2.2.2.2 (gV qw_1327 qw_1328 qw_1329 qw_78 qw_1330) rfl rfl rfl (by decide +kernel) ⟨Nat.le_of_ble_eq_true rfl, Nat.le_of_ble_eq_true rfl⟩) (g_rSB C hW_17 hS_18 [.int (nI f_23)]) rfl rfl hl.1 rfl (lv_room (Nat.le_of_ble_eq_true rfl)) dX7_outputAt_16 ⟨by decide, by decide⟩) hS_18 (fun r_26 Y_25 H_27 locs_28 hW_29 hS_30 h_24 => ?_)
  obtain ⟨h_24, hy_31⟩ := h_24
  replace hy_31 := hy_31.symm
  subst hy_31
  subst h_24
  refine W.widen (k := 1) (n := 6) (by decide) (by decide) ?_
  refine vx_ret ?_
  exact g_zret C hr hlk hW_29 hS_30 dX7_outputAt_19 (jnarc _ hbj) (by exact ⟨⟨b_22, by rw [clf (show f_23 < 2 ^ 31 by omega), ebj]⟩, rfl⟩)
