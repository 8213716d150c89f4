/-! The parser of the script: words, arguments, commands. -/
def mlF (t : Nat → Int32) (L P si : Nat) : Nat → Nat → Nat
  | 0, k => k
  | q + 1, k => if nI L ≤ nI (P + k) then k else if t (P + k) = nI (strn si k) then mlF t L P si q (k + 1) else k
def mlN (t : Nat → Int32) (L P si : Nat) : Nat := mlF t L P si (strL.getD si 0) 0
theorem mlF_le {t : Nat → Int32} {L P si : Nat} (hL : L < 2 ^ 31) : ∀ {q k : Nat}, P + k ≤ L → P + mlF t L P si q k ≤ L ∧ mlF t L P si q k ≤ k + q
  | 0, k, h => ⟨h, Nat.le_refl _⟩
  | q + 1, k, h => by
    rw [mlF]
    by_cases h1 : nI L ≤ nI (P + k)
    · rw [if_pos h1]
      exact ⟨h, by omega⟩
    · have h2 : ¬ L ≤ P + k := fun z => h1 ((nI_leI hL (by omega)).mpr z)
      rw [if_neg h1]
      split
      · have h3 := mlF_le (t := t) (si := si) hL (q := q) (k := k + 1) (show P + (k + 1) ≤ L by omega)
        omega
      · exact ⟨h, by omega⟩
theorem mlN_le {t : Nat → Int32} {L P si : Nat} (hL : L < 2 ^ 31) (h : P ≤ L) : P + mlN t L P si ≤ L ∧ mlN t L P si ≤ strL.getD si 0 := by
  have h3 := mlF_le (t := t) (si := si) hL (q := strL.getD si 0) (k := 0) (show P + 0 ≤ L by omega)
  unfold mlN
  omega
def wdF (t : Nat → Int32) (L P : Nat) : Nat → Nat → Nat → Option Nat × Nat
  | 0, _, sh => (none, P + sh)
  | q + 1, i, sh => if nI (mlN t L P i) = nI (strL.getD i 0) then (some i, P + mlN t L P i) else wdF t L P q (i + 1) (max sh (mlN t L P i))
def wordR (t : Nat → Int32) (L P : Nat) : Option Nat × Nat := wdF t L P 10 0 0
theorem wdF_le {t : Nat → Int32} {L P : Nat} (hL : L < 2 ^ 31) : ∀ {q i sh : Nat}, P + sh ≤ L → P ≤ (wdF t L P q i sh).2 ∧ (wdF t L P q i sh).2 ≤ L
  | 0, i, sh, h => ⟨Nat.le_add_right _ _, h⟩
  | q + 1, i, sh, h => by
    have h3 := mlN_le (t := t) (P := P) (si := i) hL (show P ≤ L by omega)
    rw [wdF]
    split
    · exact ⟨Nat.le_add_right _ _, h3.1⟩
    · exact wdF_le hL (by omega)
theorem wordR_le {t : Nat → Int32} {L P : Nat} (hL : L < 2 ^ 31) (h : P ≤ L) : P ≤ (wordR t L P).2 ∧ (wordR t L P).2 ≤ L := wdF_le hL (by omega)
theorem wdF_lt {t : Nat → Int32} {L P : Nat} : ∀ {q i sh k : Nat}, (wdF t L P q i sh).1 = some k → k < i + q
  | 0, i, sh, k, h => by cases h
  | q + 1, i, sh, k, h => by
    rw [wdF] at h
    by_cases h1 : nI (mlN t L P i) = nI (strL.getD i 0)
    · rw [if_pos h1] at h
      have h2 : i = k := Option.some.inj h
      omega
    · rw [if_neg h1] at h
      have := wdF_lt h
      omega
theorem wordR_lt {t : Nat → Int32} {L P k : Nat} (h : (wordR t L P).1 = some k) : k < 10 := by
  have := wdF_lt h
  omega
def rdP (t : Nat → Int32) (L k : Nat) : List Nat → Nat → Nat → (Nat → Int32) → Int32 × (Nat × (Nat → Int32))
  | [], _, p, w => (1, p, w)
  | c :: cs, j, p, w => if c = 32 then (if (rsV t L p 32).2 = 0 then (0, (rsV t L p 32).1, w) else rdP t L k cs j (rsV t L p 32).1 w)
    else if (rvV t L c p).2 = -1 then (0, (rvV t L c p).1, w) else rdP t L k cs (j + 1) (rvV t L c p).1 (upd w (3 * k + j) (rvV t L c p).2)
theorem c32a : ((100 : Nat) = 32) = False := eq_false (by decide)
theorem c32b : ((109 : Nat) = 32) = False := eq_false (by decide)
theorem c32c : ((110 : Nat) = 32) = False := eq_false (by decide)
theorem rdP_le {t : Nat → Int32} {L k : Nat} (hL : L < 2 ^ 31) : ∀ {cs : List Nat} {j p : Nat} {w : Nat → Int32}, p ≤ L → p ≤ (rdP t L k cs j p w).2.1 ∧ (rdP t L k cs j p w).2.1 ≤ L
  | [], j, p, w, h => ⟨Nat.le_refl _, h⟩
  | c :: cs, j, p, w, h => by
    rw [rdP]
    have h1 := rsV_le (t := t) (x := 32) hL h
    have h2 := rvV_le (t := t) (c := c) hL h
    split
    · split
      · exact h1
      · have h3 := rdP_le (t := t) (k := k) hL (cs := cs) (j := j) (w := w) h1.2
        omega
    · split
      · exact h2
      · have h3 := rdP_le (t := t) (k := k) hL (cs := cs) (j := j + 1) (w := upd w (3 * k + j) (rvV t L c p).2) h2.2
        omega
def formL : Nat → List Nat
  | 0 => [100, 32, 109, 110]
  | 1 => [100, 32, 100]
  | 2 => [100]
  | 3 => [100, 32, 100, 32, 110]
  | 4 => [100, 32, 100]
  | 5 => [110]
  | 6 => [100, 32, 100]
  | 7 => [100]
  | 8 => [110, 32, 100]
  | 9 => [110]
  | _ => [110]
def rcR (t : Nat → Int32) (L k p : Nat) (a b : Nat → Int32) : Int32 × (Nat × ((Nat → Int32) × (Nat → Int32))) := match (wordR t L p).1 with
  | none => (0, (wordR t L p).2, a, b)
  | some i => if (rdP t L k (formL i) 0 (wordR t L p).2 b).1 = 0 then (0, (rdP t L k (formL i) 0 (wordR t L p).2 b).2.1, a, (rdP t L k (formL i) 0 (wordR t L p).2 b).2.2) else (1, (rdP t L k (formL i) 0 (wordR t L p).2 b).2.1, upd a k (nI (i + 1)), (rdP t L k (formL i) 0 (wordR t L p).2 b).2.2)
theorem rcR_le {t : Nat → Int32} {L k p : Nat} {a b : Nat → Int32} (hL : L < 2 ^ 31) (h : p ≤ L) : p ≤ (rcR t L k p a b).2.1 ∧ (rcR t L k p a b).2.1 ≤ L := by
  have h1 := wordR_le (t := t) hL h
  unfold rcR
  split
  · exact h1
  · rename_i i _
    have h2 := rdP_le (t := t) (k := k) hL (cs := formL i) (j := 0) (w := b) h1.2
    split
    · exact ⟨Nat.le_trans h1.1 h2.1, h2.2⟩
    · exact ⟨Nat.le_trans h1.1 h2.1, h2.2⟩
def prL (t : Nat → Int32) (L : Nat) : Nat → Nat → Nat → Int32 → (Nat → Int32) → (Nat → Int32) → Int32 × (Nat × (Int32 × ((Nat → Int32) × (Nat → Int32))))
  | 0, _, p, c, a, b => (nI p, p, c, a, b)
  | q + 1, k, p, c, a, b => if (rcR t L k p a b).1 = 0 then (nI (rcR t L k p a b).2.1, (rcR t L k p a b).2.1, c, (rcR t L k p a b).2.2.1, (rcR t L k p a b).2.2.2)
    else if nI (rcR t L k p a b).2.1 < nI L then (if (rsV t L (rcR t L k p a b).2.1 59).2 = 0 then (nI (rsV t L (rcR t L k p a b).2.1 59).1, (rsV t L (rcR t L k p a b).2.1 59).1, nI (k + 1), (rcR t L k p a b).2.2.1, (rcR t L k p a b).2.2.2)
    else prL t L q (k + 1) (rsV t L (rcR t L k p a b).2.1 59).1 (nI (k + 1)) (rcR t L k p a b).2.2.1 (rcR t L k p a b).2.2.2)
    else (-1, (rcR t L k p a b).2.1, nI (k + 1), (rcR t L k p a b).2.2.1, (rcR t L k p a b).2.2.2)
def parseR (t : Nat → Int32) (L : Nat) (a b : Nat → Int32) : Int32 × (Nat × (Int32 × ((Nat → Int32) × (Nat → Int32)))) := prL t L 60 0 0 0 a b
theorem qw_482 : Cond.instanceMethod ⟨"java/lang/String", "length", "()I"⟩ ∈ lw_all := lw_mem 482 (by decide +kernel) (by decide +kernel)
theorem qw_483 : Cond.selects "java/lang/String" ⟨"java/lang/String", "length", "()I"⟩ ⟨"java/lang/String", "length", "()I"⟩ ∈ lw_all := lw_mem 483 (by decide +kernel) (by decide +kernel)
theorem qw_484 : Cond.code ⟨"java/lang/String", "length", "()I"⟩ prog_28_method_54_code 1 (some FieldType.int) ∈ lw_all := lw_mem 484 (by decide +kernel) (by decide +kernel)
theorem qw_1375 : Cond.instanceMethod ⟨"java/lang/String", "charAt", "(I)C"⟩ ∈ lw_all := lw_mem 1375 (by decide +kernel) (by decide +kernel)
theorem qw_1376 : Cond.selects "java/lang/String" ⟨"java/lang/String", "charAt", "(I)C"⟩ ⟨"java/lang/String", "charAt", "(I)C"⟩ ∈ lw_all := lw_mem 1376 (by decide +kernel) (by decide +kernel)
theorem qw_1377 : Cond.code ⟨"java/lang/String", "charAt", "(I)C"⟩ prog_28_method_56_code 2 (some FieldType.char) ∈ lw_all := lw_mem 1377 (by decide +kernel) (by decide +kernel)
set_option maxHeartbeats 4000000 in
set_option maxRecDepth 100000 in
theorem cX5_matchedLength_ok (l : Launch) (G : GT) (X : St) (L P : Nat) (hL : L ≤ 60) (hP : P ≤ L) (eL : X.1 11 5 = nI L) (eP : X.1 11 6 = nI P) (si : Nat) (hsi : si < 16) : MetI l G yX5_matchedLength (wsG yX5_matchedLength cX5_matchedLength 3 (some .int)) (rmz 4 85) [.ref (ad G 718), .ref (cy G (50 + si))] X (fun res Y => res = nI (mlN (X.1 12) L P si) ∧ Y = X) := by
  refine g_met (cc := cX5_matchedLength) (maxL := 3) (ret := (some .int)) (by decide) rfl (Nat.le_of_ble_eq_true rfl) ?_
  intro p e s m below meth c ls C hr hlk hnm hW hl
  have hx := C.1.1
  have hb := C.1.2.1
  have hS : va_S (Ab G) s.heap s.heap [] := va_S.rf
  have hl : lv_has ls 3 [(0, .ref (ad G 718)), (1, .ref (cy G (50 + si)))] := hl
  have hsl := strlt si hsi
  refine lv_iconst (v := 0) hx hb dX5_matchedLength_0 (by decide) ?_
  refine lv_istore_n (lv' := [(2, .int 0), (0, .ref (ad G 718)), (1, .ref (cy G (50 + si)))]) hx hb dX5_matchedLength_1 rfl hl (by decide) rfl (fun ls_1 hl_2 => ?_)
  have loop : ∀ (q : Nat) (kk : Nat) (H : Heap) (locs : List Loc) (ls : Array Slot), kk + q = strL.getD si 0 → P + kk ≤ L → mlF (X.1 12) L P si q kk = mlN (X.1 12) L P si → Wd G (X) H → va_S (Ab G) s.heap H locs → lv_has ls 3 [(2, .int (nI kk)), (0, .ref (ad G 718)), (1, .ref (cy G (50 + si)))] → W p l e (rmz 4 85) s m ([.ref (ad G 718), .ref (cy G (50 + si))] : List Value).toArray below meth c H locs 0 0 (MQ below (Ki G (fun res Y => res = nI (mlN (X.1 12) L P si) ∧ Y = X)) ([.ref (ad G 718), .ref (cy G (50 + si))] : List Value).toArray s 0 0 (Ab G)) (F0 m 2 ls []) := by
    intro q
    induction q with
    | zero =>
      intro kk H locs ls hq hPk hf hW hS hl
      refine lv_iload_n hx hb dX5_matchedLength_2 rfl (lv_at hl 0 rfl) ?_
      refine lv_aload_n hx hb dX5_matchedLength_3 rfl (lv_at hl 2 rfl) ?_
      refine g_calli (va_runV (As := []) (rest := [.int (nI kk)]) C.1 (cJ0_length_8abf5_ok l G X si hsi) (cwV 0 C.1.2.2.2.2 (gV qw_1373 qw_482 qw_483 qw_79 qw_484) rfl rfl rfl (by decide +kernel) ⟨Nat.le_of_ble_eq_true rfl, Nat.le_of_ble_eq_true rfl⟩) (g_rStr C hW hS hsi []) rfl rfl hl.1 rfl (lv_room (Nat.le_of_ble_eq_true rfl)) dX5_matchedLength_4 ⟨Nat.zero_le _, Nat.zero_le _⟩) hS (fun r_5 Y_4 H_6 locs_7 hW_8 hS_9 h_3 => ?_)
      obtain ⟨h_3, hy_10⟩ := h_3
      replace hy_10 := hy_10.symm
      subst hy_10
      subst h_3
      refine lv_icmp_ge (tgt := 48) hx hb dX5_matchedLength_7 (by decide) (fun _ => ?_) (fun h9 => absurd ((nI_leI (a := strL.getD si 0) (b := kk) (by omega) (by omega)).mpr (by omega)) h9)
      refine lv_iload_n hx hb dX5_matchedLength_48 rfl (lv_at hl 0 rfl) ?_
      exact g_iret C hr hlk hW_8 hS_9 dX5_matchedLength_49 ⟨congrArg nI hf, rfl⟩
    | succ q ih =>
      intro kk H locs ls hq hPk hf hW hS hl
      refine lv_iload_n hx hb dX5_matchedLength_2 rfl (lv_at hl 0 rfl) ?_
      refine lv_aload_n hx hb dX5_matchedLength_3 rfl (lv_at hl 2 rfl) ?_
      refine g_calli (va_runV (As := []) (rest := [.int (nI kk)]) C.1 (cJ0_length_8abf5_ok l G X si hsi) (cwV 0 C.1.2.2.2.2 (gV qw_1373 qw_482 qw_483 qw_79 qw_484) rfl rfl rfl (by decide +kernel) ⟨Nat.le_of_ble_eq_true rfl, Nat.le_of_ble_eq_true rfl⟩) (g_rStr C hW hS hsi []) rfl rfl hl.1 rfl (lv_room (Nat.le_of_ble_eq_true rfl)) dX5_matchedLength_4 ⟨Nat.zero_le _, Nat.zero_le _⟩) hS (fun r_13 Y_12 H_14 locs_15 hW_16 hS_17 h_11 => ?_)
      obtain ⟨h_11, hy_18⟩ := h_11
      replace hy_18 := hy_18.symm
      subst hy_18
      subst h_11
      refine lv_icmp_ge (tgt := 48) hx hb dX5_matchedLength_7 (by decide) (fun h9 => absurd h9 (fun h8 => absurd ((nI_leI (a := strL.getD si 0) (b := kk) (by omega) (by omega)).mp h8) (by omega))) (fun _ => ?_)
      refine lv_aload_n hx hb dX5_matchedLength_10 rfl (lv_at hl 1 rfl) ?_
      refine gSc_position C hW_16 (hwc hwX5) (mc qw_233) dX5_matchedLength_11 ?_
      refine g_top (y := nI P) eP ?_
      refine lv_iload_n hx hb dX5_matchedLength_14 rfl (lv_at hl 0 rfl) ?_
      refine lv_iadd hx hb dX5_matchedLength_15 ?_
      refine g_top (y := nI (P + kk)) (nI_add P kk) ?_
      refine lv_aload_n hx hb dX5_matchedLength_16 rfl (lv_at hl 1 rfl) ?_
      refine gSc_length C hW_16 (hwc hwX5) (mc qw_231) dX5_matchedLength_17 ?_
      refine g_top (y := nI L) eL ?_
      refine lv_icmp_ge (tgt := 48) hx hb dX5_matchedLength_20 (by decide) (fun b_19 => ?_) (fun b_19 => ?_)
      · have fb_19 : L ≤ (P + kk) := (nI_leI (a := L) (b := P + kk) (by omega) (by omega)).mp b_19
        refine lv_iload_n hx hb dX5_matchedLength_48 rfl (lv_at hl 0 rfl) ?_
        exact g_iret C hr hlk hW_16 hS_17 dX5_matchedLength_49 ⟨by rw [← hf, mlF, if_pos b_19], rfl⟩
      · have fb_19 : ¬ L ≤ (P + kk) := fun q9 => b_19 ((nI_leI (a := L) (b := P + kk) (by omega) (by omega)).mpr q9)
        refine lv_aload_n hx hb dX5_matchedLength_23 rfl (lv_at hl 1 rfl) ?_
        refine gSc_text C hW_16 (hwc hwX5) (mc qw_230) dX5_matchedLength_24 ?_
        refine lv_aload_n hx hb dX5_matchedLength_27 rfl (lv_at hl 1 rfl) ?_
        refine gSc_position C hW_16 (hwc hwX5) (mc qw_233) dX5_matchedLength_28 ?_
        refine g_top (y := nI P) eP ?_
        refine lv_iload_n hx hb dX5_matchedLength_31 rfl (lv_at hl 0 rfl) ?_
        refine lv_iadd hx hb dX5_matchedLength_32 ?_
        refine g_top (y := nI (P + kk)) (nI_add P kk) ?_
        refine g_txld C hW_16 (P + kk) (nI_clamp (by omega)) (vp_in_nI (show P + kk < 60 by omega) (by decide)) dX5_matchedLength_33 ?_
        refine lv_aload_n hx hb dX5_matchedLength_34 rfl (lv_at hl 2 rfl) ?_
        refine lv_iload_n hx hb dX5_matchedLength_35 rfl (lv_at hl 0 rfl) ?_
        refine g_calli (va_runV (As := [.int (nI kk)]) (rest := [.int (X.1 12 (P + kk))]) C.1 (cJ0_charAt_5068e_ok l G X si hsi kk (show kk < strL.getD si 0 by omega)) (cwV 1 C.1.2.2.2.2 (gV qw_1374 qw_1375 qw_1376 qw_79 qw_1377) rfl rfl rfl (by decide +kernel) ⟨Nat.le_of_ble_eq_true rfl, Nat.le_of_ble_eq_true rfl⟩) (g_rStr C hW_16 hS_17 hsi [.int (nI kk)]) rfl rfl hl.1 rfl (lv_room (Nat.le_of_ble_eq_true rfl)) dX5_matchedLength_36 ⟨Nat.zero_le _, Nat.zero_le _⟩) hS_17 (fun r_22 Y_21 H_23 locs_24 hW_25 hS_26 h_20 => ?_)
        obtain ⟨h_20, hy_27⟩ := h_20
        replace hy_27 := hy_27.symm
        subst hy_27
        subst h_20
        refine lv_icmp_ne (tgt := 48) hx hb dX5_matchedLength_39 (by decide) (fun b_28 => ?_) (fun b_28 => ?_)
        · refine lv_iload_n hx hb dX5_matchedLength_48 rfl (lv_at hl 0 rfl) ?_
          exact g_iret C hr hlk hW_25 hS_26 dX5_matchedLength_49 ⟨by rw [← hf, mlF, if_neg b_19, if_neg b_28], rfl⟩
        · refine lv_iinc (v := nI (kk + 1)) (lv' := [(2, .int (nI (kk + 1))), (0, .ref (ad G 718)), (1, .ref (cy G (50 + si)))]) hx hb dX5_matchedLength_42 hl (k := 0) rfl (nI_1 kk) (by decide) rfl (fun ls_29 hl_30 => ?_)
          refine lv_goto (tgt := 2) hx hb dX5_matchedLength_45 (by decide) ?_
          exact ih (kk + 1) H_23 locs_24 ls_29 (by omega) (by omega) (by rw [← hf, mlF, if_neg b_19, if_pos b_28]) hW_25 hS_26 (lv_sub hl_30 [0, 1, 2] rfl)
  exact loop (strL.getD si 0) 0 s.heap [] ls_1 (by omega) (by omega) rfl hW hS (lv_sub hl_2 [0, 1, 2] rfl)

set_option maxHeartbeats 4000000 in
set_option maxRecDepth 100000 in
theorem cX5_readWord_ok (l : Launch) (G : GT) (X : St) (L P : Nat) (hL : L ≤ 60) (hP : P ≤ L) (eL : X.1 11 5 = nI L) (eP : X.1 11 6 = nI P) : MetE l G yX5_readWord (wsG yX5_readWord cX5_readWord 5 (some (.object "Foundry$Command"))) (rmz 5 107) [.ref (ad G 718)] X (fun r Y => r = (wordR (X.1 12) L P).1 ∧ Y = setRow X 11 (upd (X.1 11) (6) (nI (wordR (X.1 12) L P).2))) := by
  refine g_met (cc := cX5_readWord) (maxL := 5) (ret := (some (.object "Foundry$Command"))) (by decide) rfl (Nat.le_of_ble_eq_true rfl) ?_
  intro p e s m below meth c ls C hr hlk hnm hW hl
  have hx := C.1.1
  have hb := C.1.2.1
  have hS : va_S (Ab G) s.heap s.heap [] := va_S.rf
  have hl : lv_has ls 5 [(0, .ref (ad G 718))] := hl
  refine lv_iconst (v := 0) hx hb dX5_readWord_0 (by decide) ?_
  refine lv_istore_n (lv' := [(1, .int 0), (0, .ref (ad G 718))]) hx hb dX5_readWord_1 rfl hl (by decide) rfl (fun ls_1 hl_2 => ?_)
  refine lv_iconst (v := 0) hx hb dX5_readWord_2 (by decide) ?_
  refine lv_istore_n (lv' := [(2, .int 0), (1, .int 0), (0, .ref (ad G 718))]) hx hb dX5_readWord_3 rfl hl_2 (by decide) rfl (fun ls_3 hl_4 => ?_)
  refine lv_iload_n hx hb dX5_readWord_4 rfl (lv_at hl_4 0 rfl) ?_
  refine va_getsN (v := .ref (cy G 42)) C.1.1 C.1.2.1 C.2.2.2.2.2.2.2.2.1.1 hS C.1.2.2.2.1 (va_Nw.use rfl (C.2.2.1.1 _ nw_24)) (fun _ h => h) dX5_readWord_5 ?_
  refine va_tlen C.1.1 C.1.2.1 C.2.2.2.2.2.2.2.2.1.2 hS (v := 10) rfl dX5_readWord_8 ?_
  refine lv_icmp_ge (tgt := 66) hx hb dX5_readWord_9 (by decide) (fun h9 => absurd h9 (by decide)) (fun _ => ?_)
  refine va_getsN (v := .ref (cy G 42)) C.1.1 C.1.2.1 C.2.2.2.2.2.2.2.2.1.1 hS C.1.2.2.2.1 (va_Nw.use rfl (C.2.2.1.1 _ nw_24)) (fun _ h => h) dX5_readWord_12 ?_
  refine lv_iload_n hx hb dX5_readWord_15 rfl (lv_at hl_4 0 rfl) ?_
  refine vb_tq (v := .ref (cy G (20 + 0))) C.1.1 C.1.2.1 C.2.2.2.2.2.2.2.2.1.2 hS (vlit (by decide)) rfl dX5_readWord_16 ?_
  refine lv_astore_n (lv' := [(3, .ref (cy G (20 + 0))), (2, .int 0), (1, .int 0), (0, .ref (ad G 718))]) hx hb dX5_readWord_17 rfl hl_4 (by decide) rfl (fun ls_5 hl_6 => ?_)
  refine lv_aload_n hx hb dX5_readWord_18 rfl (lv_at hl_6 3 rfl) ?_
  refine lv_aload_n hx hb dX5_readWord_19 rfl (lv_at hl_6 0 rfl) ?_
  refine g_efN C hS C.2.2.2.2.2.2.2.2.2.2.2.1 (i := 0) (by decide) nw_25 dX5_readWord_20 ?_
  refine g_calli (va_runV (As := [.ref (cy G (50 + 0))]) (rest := []) C.1 (cX5_matchedLength_ok l G X L P hL (by omega) eL eP 0 (by decide)) (cwV 1 C.1.2.2.2.2 (gV qw_1369 qw_1371 qw_21 qw_76 qw_1372) rfl rfl rfl (by decide +kernel) ⟨Nat.le_of_ble_eq_true rfl, Nat.le_of_ble_eq_true rfl⟩) (g_rScript C hW hS [.ref (cy G (50 + 0))]) rfl rfl hl_6.1 rfl (lv_room (Nat.le_of_ble_eq_true rfl)) dX5_readWord_23 ⟨Nat.zero_le _, Nat.zero_le _⟩) hS (fun r_8 Y_9 H_10 locs_11 hW_12 hS_13 h_7 => ?_)
  obtain ⟨h_7, hy_14⟩ := h_7
  replace hy_14 := hy_14.symm
  subst hy_14
  replace h_7 : r_8 = nI (mlN (X.1 12) L P 0) := h_7
  subst h_7
  have bm_15 := mlN_le (t := X.1 12) (L := L) (P := P) (si := 0) (by omega) (by omega)
  have lbm_15 := strlt 0 (by decide)
  refine lv_istore (lv' := [(4, .int (nI (mlN (X.1 12) L P 0))), (3, .ref (cy G (20 + 0))), (2, .int 0), (1, .int 0), (0, .ref (ad G 718))]) hx hb dX5_readWord_26 hl_6 (by decide) rfl (fun ls_16 hl_17 => ?_)
  refine lv_iload hx hb dX5_readWord_28 (lv_at hl_17 0 rfl) ?_
  refine lv_aload_n hx hb dX5_readWord_30 rfl (lv_at hl_17 1 rfl) ?_
  refine g_efN C hS_13 C.2.2.2.2.2.2.2.2.2.2.2.1 (i := 0) (by decide) nw_25 dX5_readWord_31 ?_
  refine g_calli (va_runV (As := []) (rest := [.int (nI (mlN (X.1 12) L P 0))]) C.1 (cJ0_length_8abf5_ok l G X 0 (by decide)) (cwV 0 C.1.2.2.2.2 (gV qw_1373 qw_482 qw_483 qw_79 qw_484) rfl rfl rfl (by decide +kernel) ⟨Nat.le_of_ble_eq_true rfl, Nat.le_of_ble_eq_true rfl⟩) (g_rStr C hW_12 hS_13 (by decide) []) rfl rfl hl_17.1 rfl (lv_room (Nat.le_of_ble_eq_true rfl)) dX5_readWord_34 ⟨Nat.zero_le _, Nat.zero_le _⟩) hS_13 (fun r_20 Y_19 H_21 locs_22 hW_23 hS_24 h_18 => ?_)
  obtain ⟨h_18, hy_25⟩ := h_18
  replace hy_25 := hy_25.symm
  subst hy_25
  subst h_18
  refine lv_icmp_ne (tgt := 53) hx hb dX5_readWord_37 (by decide) (fun b_26 => ?_) (fun b_26 => ?_)
  · have fb_26 : ¬ mlN (X.1 12) L P 0 = strL.getD 0 0 := fun q9 => b_26 ((nI_eq (a := mlN (X.1 12) L P 0) (b := strL.getD 0 0) (by omega) (by omega)).mpr q9)
    refine lv_iload_n hx hb dX5_readWord_53 rfl (lv_at hl_17 3 rfl) ?_
    refine lv_iload hx hb dX5_readWord_54 (lv_at hl_17 0 rfl) ?_
    refine va_mmax C.1.1 C.1.2.1 (C.1.2.2.1.trans hl_17.1.symm) C.1.2.2.2.1 (C.1.2.2.2.2 _ (mc qw_1389)) (C.1.2.2.2.2 _ (mc qwx_static)) (C.1.2.2.2.2 _ (mc qwm_init)) (C.1.2.2.2.2 _ (mc qwx_code)) (Nat.le_of_ble_eq_true rfl) (Nat.le_of_ble_eq_true rfl) (Nat.zero_le _) (Nat.zero_le _) dX5_readWord_56 ?_
    refine g_top (y := nI (max 0 (mlN (X.1 12) L P 0))) (imaxN (a := 0) (b := mlN (X.1 12) L P 0) (by omega) (by omega)) ?_
    refine lv_istore_n (lv' := [(1, .int (nI (max 0 (mlN (X.1 12) L P 0)))), (4, .int (nI (mlN (X.1 12) L P 0))), (3, .ref (cy G (20 + 0))), (2, .int 0), (0, .ref (ad G 718))]) hx hb dX5_readWord_59 rfl hl_17 (by decide) rfl (fun ls_27 hl_28 => ?_)
    refine lv_iinc (v := 1) (lv' := [(2, .int 1), (1, .int (nI (max 0 (mlN (X.1 12) L P 0)))), (4, .int (nI (mlN (X.1 12) L P 0))), (3, .ref (cy G (20 + 0))), (0, .ref (ad G 718))]) hx hb dX5_readWord_60 hl_28 (k := 3) rfl (by decide) (by decide) rfl (fun ls_29 hl_30 => ?_)
    refine lv_goto (tgt := 4) hx hb dX5_readWord_63 (by decide) ?_
    refine lv_iload_n hx hb dX5_readWord_4 rfl (lv_at hl_30 0 rfl) ?_
    refine va_getsN (v := .ref (cy G 42)) C.1.1 C.1.2.1 C.2.2.2.2.2.2.2.2.1.1 hS_24 C.1.2.2.2.1 (va_Nw.use rfl (C.2.2.1.1 _ nw_24)) (fun _ h => h) dX5_readWord_5 ?_
    refine va_tlen C.1.1 C.1.2.1 C.2.2.2.2.2.2.2.2.1.2 hS_24 (v := 10) rfl dX5_readWord_8 ?_
    refine lv_icmp_ge (tgt := 66) hx hb dX5_readWord_9 (by decide) (fun h9 => absurd h9 (by decide)) (fun _ => ?_)
    refine va_getsN (v := .ref (cy G 42)) C.1.1 C.1.2.1 C.2.2.2.2.2.2.2.2.1.1 hS_24 C.1.2.2.2.1 (va_Nw.use rfl (C.2.2.1.1 _ nw_24)) (fun _ h => h) dX5_readWord_12 ?_
    refine lv_iload_n hx hb dX5_readWord_15 rfl (lv_at hl_30 0 rfl) ?_
    refine vb_tq (v := .ref (cy G (20 + 1))) C.1.1 C.1.2.1 C.2.2.2.2.2.2.2.2.1.2 hS_24 (vlit (by decide)) rfl dX5_readWord_16 ?_
    refine lv_astore_n (lv' := [(3, .ref (cy G (20 + 1))), (2, .int 1), (1, .int (nI (max 0 (mlN (X.1 12) L P 0)))), (4, .int (nI (mlN (X.1 12) L P 0))), (0, .ref (ad G 718))]) hx hb dX5_readWord_17 rfl hl_30 (by decide) rfl (fun ls_31 hl_32 => ?_)
    refine lv_aload_n hx hb dX5_readWord_18 rfl (lv_at hl_32 4 rfl) ?_
    refine lv_aload_n hx hb dX5_readWord_19 rfl (lv_at hl_32 0 rfl) ?_
    refine g_efN C hS_24 C.2.2.2.2.2.2.2.2.2.2.2.1 (i := 1) (by decide) nw_25 dX5_readWord_20 ?_
    refine g_calli (va_runV (As := [.ref (cy G (50 + 1))]) (rest := []) C.1 (cX5_matchedLength_ok l G X L P hL (by omega) eL eP 1 (by decide)) (cwV 1 C.1.2.2.2.2 (gV qw_1369 qw_1371 qw_21 qw_76 qw_1372) rfl rfl rfl (by decide +kernel) ⟨Nat.le_of_ble_eq_true rfl, Nat.le_of_ble_eq_true rfl⟩) (g_rScript C hW_23 hS_24 [.ref (cy G (50 + 1))]) rfl rfl hl_32.1 rfl (lv_room (Nat.le_of_ble_eq_true rfl)) dX5_readWord_23 ⟨Nat.zero_le _, Nat.zero_le _⟩) hS_24 (fun r_34 Y_35 H_36 locs_37 hW_38 hS_39 h_33 => ?_)
    obtain ⟨h_33, hy_40⟩ := h_33
    replace hy_40 := hy_40.symm
    subst hy_40
    replace h_33 : r_34 = nI (mlN (X.1 12) L P 1) := h_33
    subst h_33
    have bm_41 := mlN_le (t := X.1 12) (L := L) (P := P) (si := 1) (by omega) (by omega)
    have lbm_41 := strlt 1 (by decide)
    refine lv_istore (lv' := [(4, .int (nI (mlN (X.1 12) L P 1))), (3, .ref (cy G (20 + 1))), (2, .int 1), (1, .int (nI (max 0 (mlN (X.1 12) L P 0)))), (0, .ref (ad G 718))]) hx hb dX5_readWord_26 hl_32 (by decide) rfl (fun ls_42 hl_43 => ?_)
    refine lv_iload hx hb dX5_readWord_28 (lv_at hl_43 0 rfl) ?_
    refine lv_aload_n hx hb dX5_readWord_30 rfl (lv_at hl_43 1 rfl) ?_
    refine g_efN C hS_39 C.2.2.2.2.2.2.2.2.2.2.2.1 (i := 1) (by decide) nw_25 dX5_readWord_31 ?_
    refine g_calli (va_runV (As := []) (rest := [.int (nI (mlN (X.1 12) L P 1))]) C.1 (cJ0_length_8abf5_ok l G X 1 (by decide)) (cwV 0 C.1.2.2.2.2 (gV qw_1373 qw_482 qw_483 qw_79 qw_484) rfl rfl rfl (by decide +kernel) ⟨Nat.le_of_ble_eq_true rfl, Nat.le_of_ble_eq_true rfl⟩) (g_rStr C hW_38 hS_39 (by decide) []) rfl rfl hl_43.1 rfl (lv_room (Nat.le_of_ble_eq_true rfl)) dX5_readWord_34 ⟨Nat.zero_le _, Nat.zero_le _⟩) hS_39 (fun r_46 Y_45 H_47 locs_48 hW_49 hS_50 h_44 => ?_)
    obtain ⟨h_44, hy_51⟩ := h_44
    replace hy_51 := hy_51.symm
    subst hy_51
    subst h_44
    refine lv_icmp_ne (tgt := 53) hx hb dX5_readWord_37 (by decide) (fun b_52 => ?_) (fun b_52 => ?_)
    · have fb_52 : ¬ mlN (X.1 12) L P 1 = strL.getD 1 0 := fun q9 => b_52 ((nI_eq (a := mlN (X.1 12) L P 1) (b := strL.getD 1 0) (by omega) (by omega)).mpr q9)
      refine lv_iload_n hx hb dX5_readWord_53 rfl (lv_at hl_43 3 rfl) ?_
      refine lv_iload hx hb dX5_readWord_54 (lv_at hl_43 0 rfl) ?_
      refine va_mmax C.1.1 C.1.2.1 (C.1.2.2.1.trans hl_43.1.symm) C.1.2.2.2.1 (C.1.2.2.2.2 _ (mc qw_1389)) (C.1.2.2.2.2 _ (mc qwx_static)) (C.1.2.2.2.2 _ (mc qwm_init)) (C.1.2.2.2.2 _ (mc qwx_code)) (Nat.le_of_ble_eq_true rfl) (Nat.le_of_ble_eq_true rfl) (Nat.zero_le _) (Nat.zero_le _) dX5_readWord_56 ?_
      refine g_top (y := nI (max (max 0 (mlN (X.1 12) L P 0)) (mlN (X.1 12) L P 1))) (imaxN (a := max 0 (mlN (X.1 12) L P 0)) (b := mlN (X.1 12) L P 1) (by omega) (by omega)) ?_
      refine lv_istore_n (lv' := [(1, .int (nI (max (max 0 (mlN (X.1 12) L P 0)) (mlN (X.1 12) L P 1)))), (4, .int (nI (mlN (X.1 12) L P 1))), (3, .ref (cy G (20 + 1))), (2, .int 1), (0, .ref (ad G 718))]) hx hb dX5_readWord_59 rfl hl_43 (by decide) rfl (fun ls_53 hl_54 => ?_)
      refine lv_iinc (v := 2) (lv' := [(2, .int 2), (1, .int (nI (max (max 0 (mlN (X.1 12) L P 0)) (mlN (X.1 12) L P 1)))), (4, .int (nI (mlN (X.1 12) L P 1))), (3, .ref (cy G (20 + 1))), (0, .ref (ad G 718))]) hx hb dX5_readWord_60 hl_54 (k := 3) rfl (by decide) (by decide) rfl (fun ls_55 hl_56 => ?_)
      refine lv_goto (tgt := 4) hx hb dX5_readWord_63 (by decide) ?_
      refine lv_iload_n hx hb dX5_readWord_4 rfl (lv_at hl_56 0 rfl) ?_
      refine va_getsN (v := .ref (cy G 42)) C.1.1 C.1.2.1 C.2.2.2.2.2.2.2.2.1.1 hS_50 C.1.2.2.2.1 (va_Nw.use rfl (C.2.2.1.1 _ nw_24)) (fun _ h => h) dX5_readWord_5 ?_
      refine va_tlen C.1.1 C.1.2.1 C.2.2.2.2.2.2.2.2.1.2 hS_50 (v := 10) rfl dX5_readWord_8 ?_
      refine lv_icmp_ge (tgt := 66) hx hb dX5_readWord_9 (by decide) (fun h9 => absurd h9 (by decide)) (fun _ => ?_)
      refine va_getsN (v := .ref (cy G 42)) C.1.1 C.1.2.1 C.2.2.2.2.2.2.2.2.1.1 hS_50 C.1.2.2.2.1 (va_Nw.use rfl (C.2.2.1.1 _ nw_24)) (fun _ h => h) dX5_readWord_12 ?_
      refine lv_iload_n hx hb dX5_readWord_15 rfl (lv_at hl_56 0 rfl) ?_
      refine vb_tq (v := .ref (cy G (20 + 2))) C.1.1 C.1.2.1 C.2.2.2.2.2.2.2.2.1.2 hS_50 (vlit (by decide)) rfl dX5_readWord_16 ?_
      refine lv_astore_n (lv' := [(3, .ref (cy G (20 + 2))), (2, .int 2), (1, .int (nI (max (max 0 (mlN (X.1 12) L P 0)) (mlN (X.1 12) L P 1)))), (4, .int (nI (mlN (X.1 12) L P 1))), (0, .ref (ad G 718))]) hx hb dX5_readWord_17 rfl hl_56 (by decide) rfl (fun ls_57 hl_58 => ?_)
      refine lv_aload_n hx hb dX5_readWord_18 rfl (lv_at hl_58 4 rfl) ?_
      refine lv_aload_n hx hb dX5_readWord_19 rfl (lv_at hl_58 0 rfl) ?_
      refine g_efN C hS_50 C.2.2.2.2.2.2.2.2.2.2.2.1 (i := 2) (by decide) nw_25 dX5_readWord_20 ?_
      refine g_calli (va_runV (As := [.ref (cy G (50 + 2))]) (rest := []) C.1 (cX5_matchedLength_ok l G X L P hL (by omega) eL eP 2 (by decide)) (cwV 1 C.1.2.2.2.2 (gV qw_1369 qw_1371 qw_21 qw_76 qw_1372) rfl rfl rfl (by decide +kernel) ⟨Nat.le_of_ble_eq_true rfl, Nat.le_of_ble_eq_true rfl⟩) (g_rScript C hW_49 hS_50 [.ref (cy G (50 + 2))]) rfl rfl hl_58.1 rfl (lv_room (Nat.le_of_ble_eq_true rfl)) dX5_readWord_23 ⟨Nat.zero_le _, Nat.zero_le _⟩) hS_50 (fun r_60 Y_61 H_62 locs_63 hW_64 hS_65 h_59 => ?_)
      obtain ⟨h_59, hy_66⟩ := h_59
      replace hy_66 := hy_66.symm
      subst hy_66
      replace h_59 : r_60 = nI (mlN (X.1 12) L P 2) := h_59
      subst h_59
      have bm_67 := mlN_le (t := X.1 12) (L := L) (P := P) (si := 2) (by omega) (by omega)
      have lbm_67 := strlt 2 (by decide)
      refine lv_istore (lv' := [(4, .int (nI (mlN (X.1 12) L P 2))), (3, .ref (cy G (20 + 2))), (2, .int 2), (1, .int (nI (max (max 0 (mlN (X.1 12) L P 0)) (mlN (X.1 12) L P 1)))), (0, .ref (ad G 718))]) hx hb dX5_readWord_26 hl_58 (by decide) rfl (fun ls_68 hl_69 => ?_)
      refine lv_iload hx hb dX5_readWord_28 (lv_at hl_69 0 rfl) ?_
      refine lv_aload_n hx hb dX5_readWord_30 rfl (lv_at hl_69 1 rfl) ?_
      refine g_efN C hS_65 C.2.2.2.2.2.2.2.2.2.2.2.1 (i := 2) (by decide) nw_25 dX5_readWord_31 ?_
      refine g_calli (va_runV (As := []) (rest := [.int (nI (mlN (X.1 12) L P 2))]) C.1 (cJ0_length_8abf5_ok l G X 2 (by decide)) (cwV 0 C.1.2.2.2.2 (gV qw_1373 qw_482 qw_483 qw_79 qw_484) rfl rfl rfl (by decide +kernel) ⟨Nat.le_of_ble_eq_true rfl, Nat.le_of_ble_eq_true rfl⟩) (g_rStr C hW_64 hS_65 (by decide) []) rfl rfl hl_69.1 rfl (lv_room (Nat.le_of_ble_eq_true rfl)) dX5_readWord_34 ⟨Nat.zero_le _, Nat.zero_le _⟩) hS_65 (fun r_72 Y_71 H_73 locs_74 hW_75 hS_76 h_70 => ?_)
      obtain ⟨h_70, hy_77⟩ := h_70
      replace hy_77 := hy_77.symm
      subst hy_77
      subst h_70
      refine lv_icmp_ne (tgt := 53) hx hb dX5_readWord_37 (by decide) (fun b_78 => ?_) (fun b_78 => ?_)
      · have fb_78 : ¬ mlN (X.1 12) L P 2 = strL.getD 2 0 := fun q9 => b_78 ((nI_eq (a := mlN (X.1 12) L P 2) (b := strL.getD 2 0) (by omega) (by omega)).mpr q9)
        refine lv_iload_n hx hb dX5_readWord_53 rfl (lv_at hl_69 3 rfl) ?_
        refine lv_iload hx hb dX5_readWord_54 (lv_at hl_69 0 rfl) ?_
        refine va_mmax C.1.1 C.1.2.1 (C.1.2.2.1.trans hl_69.1.symm) C.1.2.2.2.1 (C.1.2.2.2.2 _ (mc qw_1389)) (C.1.2.2.2.2 _ (mc qwx_static)) (C.1.2.2.2.2 _ (mc qwm_init)) (C.1.2.2.2.2 _ (mc qwx_code)) (Nat.le_of_ble_eq_true rfl) (Nat.le_of_ble_eq_true rfl) (Nat.zero_le _) (Nat.zero_le _) dX5_readWord_56 ?_
        refine g_top (y := nI (max (max (max 0 (mlN (X.1 12) L P 0)) (mlN (X.1 12) L P 1)) (mlN (X.1 12) L P 2))) (imaxN (a := max (max 0 (mlN (X.1 12) L P 0)) (mlN (X.1 12) L P 1)) (b := mlN (X.1 12) L P 2) (by omega) (by omega)) ?_
        refine lv_istore_n (lv' := [(1, .int (nI (max (max (max 0 (mlN (X.1 12) L P 0)) (mlN (X.1 12) L P 1)) (mlN (X.1 12) L P 2)))), (4, .int (nI (mlN (X.1 12) L P 2))), (3, .ref (cy G (20 + 2))), (2, .int 2), (0, .ref (ad G 718))]) hx hb dX5_readWord_59 rfl hl_69 (by decide) rfl (fun ls_79 hl_80 => ?_)
        refine lv_iinc (v := 3) (lv' := [(2, .int 3), (1, .int (nI (max (max (max 0 (mlN (X.1 12) L P 0)) (mlN (X.1 12) L P 1)) (mlN (X.1 12) L P 2)))), (4, .int (nI (mlN (X.1 12) L P 2))), (3, .ref (cy G (20 + 2))), (0, .ref (ad G 718))]) hx hb dX5_readWord_60 hl_80 (k := 3) rfl (by decide) (by decide) rfl (fun ls_81 hl_82 => ?_)
        refine lv_goto (tgt := 4) hx hb dX5_readWord_63 (by decide) ?_
        refine lv_iload_n hx hb dX5_readWord_4 rfl (lv_at hl_82 0 rfl) ?_
        refine va_getsN (v := .ref (cy G 42)) C.1.1 C.1.2.1 C.2.2.2.2.2.2.2.2.1.1 hS_76 C.1.2.2.2.1 (va_Nw.use rfl (C.2.2.1.1 _ nw_24)) (fun _ h => h) dX5_readWord_5 ?_
        refine va_tlen C.1.1 C.1.2.1 C.2.2.2.2.2.2.2.2.1.2 hS_76 (v := 10) rfl dX5_readWord_8 ?_
        refine lv_icmp_ge (tgt := 66) hx hb dX5_readWord_9 (by decide) (fun h9 => absurd h9 (by decide)) (fun _ => ?_)
        refine va_getsN (v := .ref (cy G 42)) C.1.1 C.1.2.1 C.2.2.2.2.2.2.2.2.1.1 hS_76 C.1.2.2.2.1 (va_Nw.use rfl (C.2.2.1.1 _ nw_24)) (fun _ h => h) dX5_readWord_12 ?_
        refine lv_iload_n hx hb dX5_readWord_15 rfl (lv_at hl_82 0 rfl) ?_
        refine vb_tq (v := .ref (cy G (20 + 3))) C.1.1 C.1.2.1 C.2.2.2.2.2.2.2.2.1.2 hS_76 (vlit (by decide)) rfl dX5_readWord_16 ?_
        refine lv_astore_n (lv' := [(3, .ref (cy G (20 + 3))), (2, .int 3), (1, .int (nI (max (max (max 0 (mlN (X.1 12) L P 0)) (mlN (X.1 12) L P 1)) (mlN (X.1 12) L P 2)))), (4, .int (nI (mlN (X.1 12) L P 2))), (0, .ref (ad G 718))]) hx hb dX5_readWord_17 rfl hl_82 (by decide) rfl (fun ls_83 hl_84 => ?_)
        refine lv_aload_n hx hb dX5_readWord_18 rfl (lv_at hl_84 4 rfl) ?_
        refine lv_aload_n hx hb dX5_readWord_19 rfl (lv_at hl_84 0 rfl) ?_
        refine g_efN C hS_76 C.2.2.2.2.2.2.2.2.2.2.2.1 (i := 3) (by decide) nw_25 dX5_readWord_20 ?_
        refine g_calli (va_runV (As := [.ref (cy G (50 + 3))]) (rest := []) C.1 (cX5_matchedLength_ok l G X L P hL (by omega) eL eP 3 (by decide)) (cwV 1 C.1.2.2.2.2 (gV qw_1369 qw_1371 qw_21 qw_76 qw_1372) rfl rfl rfl (by decide +kernel) ⟨Nat.le_of_ble_eq_true rfl, Nat.le_of_ble_eq_true rfl⟩) (g_rScript C hW_75 hS_76 [.ref (cy G (50 + 3))]) rfl rfl hl_84.1 rfl (lv_room (Nat.le_of_ble_eq_true rfl)) dX5_readWord_23 ⟨Nat.zero_le _, Nat.zero_le _⟩) hS_76 (fun r_86 Y_87 H_88 locs_89 hW_90 hS_91 h_85 => ?_)
        obtain ⟨h_85, hy_92⟩ := h_85
        replace hy_92 := hy_92.symm
        subst hy_92
        replace h_85 : r_86 = nI (mlN (X.1 12) L P 3) := h_85
        subst h_85
        have bm_93 := mlN_le (t := X.1 12) (L := L) (P := P) (si := 3) (by omega) (by omega)
        have lbm_93 := strlt 3 (by decide)
        refine lv_istore (lv' := [(4, .int (nI (mlN (X.1 12) L P 3))), (3, .ref (cy G (20 + 3))), (2, .int 3), (1, .int (nI (max (max (max 0 (mlN (X.1 12) L P 0)) (mlN (X.1 12) L P 1)) (mlN (X.1 12) L P 2)))), (0, .ref (ad G 718))]) hx hb dX5_readWord_26 hl_84 (by decide) rfl (fun ls_94 hl_95 => ?_)
        refine lv_iload hx hb dX5_readWord_28 (lv_at hl_95 0 rfl) ?_
        refine lv_aload_n hx hb dX5_readWord_30 rfl (lv_at hl_95 1 rfl) ?_
        refine g_efN C hS_91 C.2.2.2.2.2.2.2.2.2.2.2.1 (i := 3) (by decide) nw_25 dX5_readWord_31 ?_
        refine g_calli (va_runV (As := []) (rest := [.int (nI (mlN (X.1 12) L P 3))]) C.1 (cJ0_length_8abf5_ok l G X 3 (by decide)) (cwV 0 C.1.2.2.2.2 (gV qw_1373 qw_482 qw_483 qw_79 qw_484) rfl rfl rfl (by decide +kernel) ⟨Nat.le_of_ble_eq_true rfl, Nat.le_of_ble_eq_true rfl⟩) (g_rStr C hW_90 hS_91 (by decide) []) rfl rfl hl_95.1 rfl (lv_room (Nat.le_of_ble_eq_true rfl)) dX5_readWord_34 ⟨Nat.zero_le _, Nat.zero_le _⟩) hS_91 (fun r_98 Y_97 H_99 locs_100 hW_101 hS_102 h_96 => ?_)
        obtain ⟨h_96, hy_103⟩ := h_96
        replace hy_103 := hy_103.symm
        subst hy_103
        subst h_96
        refine lv_icmp_ne (tgt := 53) hx hb dX5_readWord_37 (by decide) (fun b_104 => ?_) (fun b_104 => ?_)
        · have fb_104 : ¬ mlN (X.1 12) L P 3 = strL.getD 3 0 := fun q9 => b_104 ((nI_eq (a := mlN (X.1 12) L P 3) (b := strL.getD 3 0) (by omega) (by omega)).mpr q9)
          refine lv_iload_n hx hb dX5_readWord_53 rfl (lv_at hl_95 3 rfl) ?_
          refine lv_iload hx hb dX5_readWord_54 (lv_at hl_95 0 rfl) ?_
          refine va_mmax C.1.1 C.1.2.1 (C.1.2.2.1.trans hl_95.1.symm) C.1.2.2.2.1 (C.1.2.2.2.2 _ (mc qw_1389)) (C.1.2.2.2.2 _ (mc qwx_static)) (C.1.2.2.2.2 _ (mc qwm_init)) (C.1.2.2.2.2 _ (mc qwx_code)) (Nat.le_of_ble_eq_true rfl) (Nat.le_of_ble_eq_true rfl) (Nat.zero_le _) (Nat.zero_le _) dX5_readWord_56 ?_
          refine g_top (y := nI (max (max (max (max 0 (mlN (X.1 12) L P 0)) (mlN (X.1 12) L P 1)) (mlN (X.1 12) L P 2)) (mlN (X.1 12) L P 3))) (imaxN (a := max (max (max 0 (mlN (X.1 12) L P 0)) (mlN (X.1 12) L P 1)) (mlN (X.1 12) L P 2)) (b := mlN (X.1 12) L P 3) (by omega) (by omega)) ?_
          refine lv_istore_n (lv' := [(1, .int (nI (max (max (max (max 0 (mlN (X.1 12) L P 0)) (mlN (X.1 12) L P 1)) (mlN (X.1 12) L P 2)) (mlN (X.1 12) L P 3)))), (4, .int (nI (mlN (X.1 12) L P 3))), (3, .ref (cy G (20 + 3))), (2, .int 3), (0, .ref (ad G 718))]) hx hb dX5_readWord_59 rfl hl_95 (by decide) rfl (fun ls_105 hl_106 => ?_)
          refine lv_iinc (v := 4) (lv' := [(2, .int 4), (1, .int (nI (max (max (max (max 0 (mlN (X.1 12) L P 0)) (mlN (X.1 12) L P 1)) (mlN (X.1 12) L P 2)) (mlN (X.1 12) L P 3)))), (4, .int (nI (mlN (X.1 12) L P 3))), (3, .ref (cy G (20 + 3))), (0, .ref (ad G 718))]) hx hb dX5_readWord_60 hl_106 (k := 3) rfl (by decide) (by decide) rfl (fun ls_107 hl_108 => ?_)
          refine lv_goto (tgt := 4) hx hb dX5_readWord_63 (by decide) ?_
          refine lv_iload_n hx hb dX5_readWord_4 rfl (lv_at hl_108 0 rfl) ?_
          refine va_getsN (v := .ref (cy G 42)) C.1.1 C.1.2.1 C.2.2.2.2.2.2.2.2.1.1 hS_102 C.1.2.2.2.1 (va_Nw.use rfl (C.2.2.1.1 _ nw_24)) (fun _ h => h) dX5_readWord_5 ?_
          refine va_tlen C.1.1 C.1.2.1 C.2.2.2.2.2.2.2.2.1.2 hS_102 (v := 10) rfl dX5_readWord_8 ?_
          refine lv_icmp_ge (tgt := 66) hx hb dX5_readWord_9 (by decide) (fun h9 => absurd h9 (by decide)) (fun _ => ?_)
          refine va_getsN (v := .ref (cy G 42)) C.1.1 C.1.2.1 C.2.2.2.2.2.2.2.2.1.1 hS_102 C.1.2.2.2.1 (va_Nw.use rfl (C.2.2.1.1 _ nw_24)) (fun _ h => h) dX5_readWord_12 ?_
          refine lv_iload_n hx hb dX5_readWord_15 rfl (lv_at hl_108 0 rfl) ?_
          refine vb_tq (v := .ref (cy G (20 + 4))) C.1.1 C.1.2.1 C.2.2.2.2.2.2.2.2.1.2 hS_102 (vlit (by decide)) rfl dX5_readWord_16 ?_
          refine lv_astore_n (lv' := [(3, .ref (cy G (20 + 4))), (2, .int 4), (1, .int (nI (max (max (max (max 0 (mlN (X.1 12) L P 0)) (mlN (X.1 12) L P 1)) (mlN (X.1 12) L P 2)) (mlN (X.1 12) L P 3)))), (4, .int (nI (mlN (X.1 12) L P 3))), (0, .ref (ad G 718))]) hx hb dX5_readWord_17 rfl hl_108 (by decide) rfl (fun ls_109 hl_110 => ?_)
          refine lv_aload_n hx hb dX5_readWord_18 rfl (lv_at hl_110 4 rfl) ?_
          refine lv_aload_n hx hb dX5_readWord_19 rfl (lv_at hl_110 0 rfl) ?_
          refine g_efN C hS_102 C.2.2.2.2.2.2.2.2.2.2.2.1 (i := 4) (by decide) nw_25 dX5_readWord_20 ?_
          refine g_calli (va_runV (As := [.ref (cy G (50 + 4))]) (rest := []) C.1 (cX5_matchedLength_ok l G X L P hL (by omega) eL eP 4 (by decide)) (cwV 1 C.1.2.2.2.2 (gV qw_1369 qw_1371 qw_21 qw_76 qw_1372) rfl rfl rfl (by decide +kernel) ⟨Nat.le_of_ble_eq_true rfl, Nat.le_of_ble_eq_true rfl⟩) (g_rScript C hW_101 hS_102 [.ref (cy G (50 + 4))]) rfl rfl hl_110.1 rfl (lv_room (Nat.le_of_ble_eq_true rfl)) dX5_readWord_23 ⟨Nat.zero_le _, Nat.zero_le _⟩) hS_102 (fun r_112 Y_113 H_114 locs_115 hW_116 hS_117 h_111 => ?_)
          obtain ⟨h_111, hy_118⟩ := h_111
          replace hy_118 := hy_118.symm
          subst hy_118
          replace h_111 : r_112 = nI (mlN (X.1 12) L P 4) := h_111
          subst h_111
          have bm_119 := mlN_le (t := X.1 12) (L := L) (P := P) (si := 4) (by omega) (by omega)
          have lbm_119 := strlt 4 (by decide)
          refine lv_istore (lv' := [(4, .int (nI (mlN (X.1 12) L P 4))), (3, .ref (cy G (20 + 4))), (2, .int 4), (1, .int (nI (max (max (max (max 0 (mlN (X.1 12) L P 0)) (mlN (X.1 12) L P 1)) (mlN (X.1 12) L P 2)) (mlN (X.1 12) L P 3)))), (0, .ref (ad G 718))]) hx hb dX5_readWord_26 hl_110 (by decide) rfl (fun ls_120 hl_121 => ?_)
          refine lv_iload hx hb dX5_readWord_28 (lv_at hl_121 0 rfl) ?_
          refine lv_aload_n hx hb dX5_readWord_30 rfl (lv_at hl_121 1 rfl) ?_
          refine g_efN C hS_117 C.2.2.2.2.2.2.2.2.2.2.2.1 (i := 4) (by decide) nw_25 dX5_readWord_31 ?_
          refine g_calli (va_runV (As := []) (rest := [.int (nI (mlN (X.1 12) L P 4))]) C.1 (cJ0_length_8abf5_ok l G X 4 (by decide)) (cwV 0 C.1.2.2.2.2 (gV qw_1373 qw_482 qw_483 qw_79 qw_484) rfl rfl rfl (by decide +kernel) ⟨Nat.le_of_ble_eq_true rfl, Nat.le_of_ble_eq_true rfl⟩) (g_rStr C hW_116 hS_117 (by decide) []) rfl rfl hl_121.1 rfl (lv_room (Nat.le_of_ble_eq_true rfl)) dX5_readWord_34 ⟨Nat.zero_le _, Nat.zero_le _⟩) hS_117 (fun r_124 Y_123 H_125 locs_126 hW_127 hS_128 h_122 => ?_)
          obtain ⟨h_122, hy_129⟩ := h_122
          replace hy_129 := hy_129.symm
          subst hy_129
          subst h_122
          refine lv_icmp_ne (tgt := 53) hx hb dX5_readWord_37 (by decide) (fun b_130 => ?_) (fun b_130 => ?_)
          · have fb_130 : ¬ mlN (X.1 12) L P 4 = strL.getD 4 0 := fun q9 => b_130 ((nI_eq (a := mlN (X.1 12) L P 4) (b := strL.getD 4 0) (by omega) (by omega)).mpr q9)
            refine lv_iload_n hx hb dX5_readWord_53 rfl (lv_at hl_121 3 rfl) ?_
            refine lv_iload hx hb dX5_readWord_54 (lv_at hl_121 0 rfl) ?_
            refine va_mmax C.1.1 C.1.2.1 (C.1.2.2.1.trans hl_121.1.symm) C.1.2.2.2.1 (C.1.2.2.2.2 _ (mc qw_1389)) (C.1.2.2.2.2 _ (mc qwx_static)) (C.1.2.2.2.2 _ (mc qwm_init)) (C.1.2.2.2.2 _ (mc qwx_code)) (Nat.le_of_ble_eq_true rfl) (Nat.le_of_ble_eq_true rfl) (Nat.zero_le _) (Nat.zero_le _) dX5_readWord_56 ?_
            refine g_top (y := nI (max (max (max (max (max 0 (mlN (X.1 12) L P 0)) (mlN (X.1 12) L P 1)) (mlN (X.1 12) L P 2)) (mlN (X.1 12) L P 3)) (mlN (X.1 12) L P 4))) (imaxN (a := max (max (max (max 0 (mlN (X.1 12) L P 0)) (mlN (X.1 12) L P 1)) (mlN (X.1 12) L P 2)) (mlN (X.1 12) L P 3)) (b := mlN (X.1 12) L P 4) (by omega) (by omega)) ?_
            refine lv_istore_n (lv' := [(1, .int (nI (max (max (max (max (max 0 (mlN (X.1 12) L P 0)) (mlN (X.1 12) L P 1)) (mlN (X.1 12) L P 2)) (mlN (X.1 12) L P 3)) (mlN (X.1 12) L P 4)))), (4, .int (nI (mlN (X.1 12) L P 4))), (3, .ref (cy G (20 + 4))), (2, .int 4), (0, .ref (ad G 718))]) hx hb dX5_readWord_59 rfl hl_121 (by decide) rfl (fun ls_131 hl_132 => ?_)
            refine lv_iinc (v := 5) (lv' := [(2, .int 5), (1, .int (nI (max (max (max (max (max 0 (mlN (X.1 12) L P 0)) (mlN (X.1 12) L P 1)) (mlN (X.1 12) L P 2)) (mlN (X.1 12) L P 3)) (mlN (X.1 12) L P 4)))), (4, .int (nI (mlN (X.1 12) L P 4))), (3, .ref (cy G (20 + 4))), (0, .ref (ad G 718))]) hx hb dX5_readWord_60 hl_132 (k := 3) rfl (by decide) (by decide) rfl (fun ls_133 hl_134 => ?_)
            refine lv_goto (tgt := 4) hx hb dX5_readWord_63 (by decide) ?_
            refine lv_iload_n hx hb dX5_readWord_4 rfl (lv_at hl_134 0 rfl) ?_
            refine va_getsN (v := .ref (cy G 42)) C.1.1 C.1.2.1 C.2.2.2.2.2.2.2.2.1.1 hS_128 C.1.2.2.2.1 (va_Nw.use rfl (C.2.2.1.1 _ nw_24)) (fun _ h => h) dX5_readWord_5 ?_
            refine va_tlen C.1.1 C.1.2.1 C.2.2.2.2.2.2.2.2.1.2 hS_128 (v := 10) rfl dX5_readWord_8 ?_
            refine lv_icmp_ge (tgt := 66) hx hb dX5_readWord_9 (by decide) (fun h9 => absurd h9 (by decide)) (fun _ => ?_)
            refine va_getsN (v := .ref (cy G 42)) C.1.1 C.1.2.1 C.2.2.2.2.2.2.2.2.1.1 hS_128 C.1.2.2.2.1 (va_Nw.use rfl (C.2.2.1.1 _ nw_24)) (fun _ h => h) dX5_readWord_12 ?_
            refine lv_iload_n hx hb dX5_readWord_15 rfl (lv_at hl_134 0 rfl) ?_
            refine vb_tq (v := .ref (cy G (20 + 5))) C.1.1 C.1.2.1 C.2.2.2.2.2.2.2.2.1.2 hS_128 (vlit (by decide)) rfl dX5_readWord_16 ?_
            refine lv_astore_n (lv' := [(3, .ref (cy G (20 + 5))), (2, .int 5), (1, .int (nI (max (max (max (max (max 0 (mlN (X.1 12) L P 0)) (mlN (X.1 12) L P 1)) (mlN (X.1 12) L P 2)) (mlN (X.1 12) L P 3)) (mlN (X.1 12) L P 4)))), (4, .int (nI (mlN (X.1 12) L P 4))), (0, .ref (ad G 718))]) hx hb dX5_readWord_17 rfl hl_134 (by decide) rfl (fun ls_135 hl_136 => ?_)
            refine lv_aload_n hx hb dX5_readWord_18 rfl (lv_at hl_136 4 rfl) ?_
            refine lv_aload_n hx hb dX5_readWord_19 rfl (lv_at hl_136 0 rfl) ?_
            refine g_efN C hS_128 C.2.2.2.2.2.2.2.2.2.2.2.1 (i := 5) (by decide) nw_25 dX5_readWord_20 ?_
            refine g_calli (va_runV (As := [.ref (cy G (50 + 5))]) (rest := []) C.1 (cX5_matchedLength_ok l G X L P hL (by omega) eL eP 5 (by decide)) (cwV 1 C.1.2.2.2.2 (gV qw_1369 qw_1371 qw_21 qw_76 qw_1372) rfl rfl rfl (by decide +kernel) ⟨Nat.le_of_ble_eq_true rfl, Nat.le_of_ble_eq_true rfl⟩) (g_rScript C hW_127 hS_128 [.ref (cy G (50 + 5))]) rfl rfl hl_136.1 rfl (lv_room (Nat.le_of_ble_eq_true rfl)) dX5_readWord_23 ⟨Nat.zero_le _, Nat.zero_le _⟩) hS_128 (fun r_138 Y_139 H_140 locs_141 hW_142 hS_143 h_137 => ?_)
            obtain ⟨h_137, hy_144⟩ := h_137
            replace hy_144 := hy_144.symm
            subst hy_144
            replace h_137 : r_138 = nI (mlN (X.1 12) L P 5) := h_137
            subst h_137
            have bm_145 := mlN_le (t := X.1 12) (L := L) (P := P) (si := 5) (by omega) (by omega)
            have lbm_145 := strlt 5 (by decide)
            refine lv_istore (lv' := [(4, .int (nI (mlN (X.1 12) L P 5))), (3, .ref (cy G (20 + 5))), (2, .int 5), (1, .int (nI (max (max (max (max (max 0 (mlN (X.1 12) L P 0)) (mlN (X.1 12) L P 1)) (mlN (X.1 12) L P 2)) (mlN (X.1 12) L P 3)) (mlN (X.1 12) L P 4)))), (0, .ref (ad G 718))]) hx hb dX5_readWord_26 hl_136 (by decide) rfl (fun ls_146 hl_147 => ?_)
            refine lv_iload hx hb dX5_readWord_28 (lv_at hl_147 0 rfl) ?_
            refine lv_aload_n hx hb dX5_readWord_30 rfl (lv_at hl_147 1 rfl) ?_
            refine g_efN C hS_143 C.2.2.2.2.2.2.2.2.2.2.2.1 (i := 5) (by decide) nw_25 dX5_readWord_31 ?_
            refine g_calli (va_runV (As := []) (rest := [.int (nI (mlN (X.1 12) L P 5))]) C.1 (cJ0_length_8abf5_ok l G X 5 (by decide)) (cwV 0 C.1.2.2.2.2 (gV qw_1373 qw_482 qw_483 qw_79 qw_484) rfl rfl rfl (by decide +kernel) ⟨Nat.le_of_ble_eq_true rfl, Nat.le_of_ble_eq_true rfl⟩) (g_rStr C hW_142 hS_143 (by decide) []) rfl rfl hl_147.1 rfl (lv_room (Nat.le_of_ble_eq_true rfl)) dX5_readWord_34 ⟨Nat.zero_le _, Nat.zero_le _⟩) hS_143 (fun r_150 Y_149 H_151 locs_152 hW_153 hS_154 h_148 => ?_)
            obtain ⟨h_148, hy_155⟩ := h_148
            replace hy_155 := hy_155.symm
            subst hy_155
            subst h_148
            refine lv_icmp_ne (tgt := 53) hx hb dX5_readWord_37 (by decide) (fun b_156 => ?_) (fun b_156 => ?_)
            · have fb_156 : ¬ mlN (X.1 12) L P 5 = strL.getD 5 0 := fun q9 => b_156 ((nI_eq (a := mlN (X.1 12) L P 5) (b := strL.getD 5 0) (by omega) (by omega)).mpr q9)
              refine lv_iload_n hx hb dX5_readWord_53 rfl (lv_at hl_147 3 rfl) ?_
              refine lv_iload hx hb dX5_readWord_54 (lv_at hl_147 0 rfl) ?_
              refine va_mmax C.1.1 C.1.2.1 (C.1.2.2.1.trans hl_147.1.symm) C.1.2.2.2.1 (C.1.2.2.2.2 _ (mc qw_1389)) (C.1.2.2.2.2 _ (mc qwx_static)) (C.1.2.2.2.2 _ (mc qwm_init)) (C.1.2.2.2.2 _ (mc qwx_code)) (Nat.le_of_ble_eq_true rfl) (Nat.le_of_ble_eq_true rfl) (Nat.zero_le _) (Nat.zero_le _) dX5_readWord_56 ?_
              refine g_top (y := nI (max (max (max (max (max (max 0 (mlN (X.1 12) L P 0)) (mlN (X.1 12) L P 1)) (mlN (X.1 12) L P 2)) (mlN (X.1 12) L P 3)) (mlN (X.1 12) L P 4)) (mlN (X.1 12) L P 5))) (imaxN (a := max (max (max (max (max 0 (mlN (X.1 12) L P 0)) (mlN (X.1 12) L P 1)) (mlN (X.1 12) L P 2)) (mlN (X.1 12) L P 3)) (mlN (X.1 12) L P 4)) (b := mlN (X.1 12) L P 5) (by omega) (by omega)) ?_
              refine lv_istore_n (lv' := [(1, .int (nI (max (max (max (max (max (max 0 (mlN (X.1 12) L P 0)) (mlN (X.1 12) L P 1)) (mlN (X.1 12) L P 2)) (mlN (X.1 12) L P 3)) (mlN (X.1 12) L P 4)) (mlN (X.1 12) L P 5)))), (4, .int (nI (mlN (X.1 12) L P 5))), (3, .ref (cy G (20 + 5))), (2, .int 5), (0, .ref (ad G 718))]) hx hb dX5_readWord_59 rfl hl_147 (by decide) rfl (fun ls_157 hl_158 => ?_)
              refine lv_iinc (v := 6) (lv' := [(2, .int 6), (1, .int (nI (max (max (max (max (max (max 0 (mlN (X.1 12) L P 0)) (mlN (X.1 12) L P 1)) (mlN (X.1 12) L P 2)) (mlN (X.1 12) L P 3)) (mlN (X.1 12) L P 4)) (mlN (X.1 12) L P 5)))), (4, .int (nI (mlN (X.1 12) L P 5))), (3, .ref (cy G (20 + 5))), (0, .ref (ad G 718))]) hx hb dX5_readWord_60 hl_158 (k := 3) rfl (by decide) (by decide) rfl (fun ls_159 hl_160 => ?_)
              refine lv_goto (tgt := 4) hx hb dX5_readWord_63 (by decide) ?_
              refine lv_iload_n hx hb dX5_readWord_4 rfl (lv_at hl_160 0 rfl) ?_
              refine va_getsN (v := .ref (cy G 42)) C.1.1 C.1.2.1 C.2.2.2.2.2.2.2.2.1.1 hS_154 C.1.2.2.2.1 (va_Nw.use rfl (C.2.2.1.1 _ nw_24)) (fun _ h => h) dX5_readWord_5 ?_
              refine va_tlen C.1.1 C.1.2.1 C.2.2.2.2.2.2.2.2.1.2 hS_154 (v := 10) rfl dX5_readWord_8 ?_
              refine lv_icmp_ge (tgt := 66) hx hb dX5_readWord_9 (by decide) (fun h9 => absurd h9 (by decide)) (fun _ => ?_)
              refine va_getsN (v := .ref (cy G 42)) C.1.1 C.1.2.1 C.2.2.2.2.2.2.2.2.1.1 hS_154 C.1.2.2.2.1 (va_Nw.use rfl (C.2.2.1.1 _ nw_24)) (fun _ h => h) dX5_readWord_12 ?_
              refine lv_iload_n hx hb dX5_readWord_15 rfl (lv_at hl_160 0 rfl) ?_
              refine vb_tq (v := .ref (cy G (20 + 6))) C.1.1 C.1.2.1 C.2.2.2.2.2.2.2.2.1.2 hS_154 (vlit (by decide)) rfl dX5_readWord_16 ?_
              refine lv_astore_n (lv' := [(3, .ref (cy G (20 + 6))), (2, .int 6), (1, .int (nI (max (max (max (max (max (max 0 (mlN (X.1 12) L P 0)) (mlN (X.1 12) L P 1)) (mlN (X.1 12) L P 2)) (mlN (X.1 12) L P 3)) (mlN (X.1 12) L P 4)) (mlN (X.1 12) L P 5)))), (4, .int (nI (mlN (X.1 12) L P 5))), (0, .ref (ad G 718))]) hx hb dX5_readWord_17 rfl hl_160 (by decide) rfl (fun ls_161 hl_162 => ?_)
              refine lv_aload_n hx hb dX5_readWord_18 rfl (lv_at hl_162 4 rfl) ?_
              refine lv_aload_n hx hb dX5_readWord_19 rfl (lv_at hl_162 0 rfl) ?_
              refine g_efN C hS_154 C.2.2.2.2.2.2.2.2.2.2.2.1 (i := 6) (by decide) nw_25 dX5_readWord_20 ?_
              refine g_calli (va_runV (As := [.ref (cy G (50 + 6))]) (rest := []) C.1 (cX5_matchedLength_ok l G X L P hL (by omega) eL eP 6 (by decide)) (cwV 1 C.1.2.2.2.2 (gV qw_1369 qw_1371 qw_21 qw_76 qw_1372) rfl rfl rfl (by decide +kernel) ⟨Nat.le_of_ble_eq_true rfl, Nat.le_of_ble_eq_true rfl⟩) (g_rScript C hW_153 hS_154 [.ref (cy G (50 + 6))]) rfl rfl hl_162.1 rfl (lv_room (Nat.le_of_ble_eq_true rfl)) dX5_readWord_23 ⟨Nat.zero_le _, Nat.zero_le _⟩) hS_154 (fun r_164 Y_165 H_166 locs_167 hW_168 hS_169 h_163 => ?_)
              obtain ⟨h_163, hy_170⟩ := h_163
              replace hy_170 := hy_170.symm
              subst hy_170
              replace h_163 : r_164 = nI (mlN (X.1 12) L P 6) := h_163
              subst h_163
              have bm_171 := mlN_le (t := X.1 12) (L := L) (P := P) (si := 6) (by omega) (by omega)
              have lbm_171 := strlt 6 (by decide)
              refine lv_istore (lv' := [(4, .int (nI (mlN (X.1 12) L P 6))), (3, .ref (cy G (20 + 6))), (2, .int 6), (1, .int (nI (max (max (max (max (max (max 0 (mlN (X.1 12) L P 0)) (mlN (X.1 12) L P 1)) (mlN (X.1 12) L P 2)) (mlN (X.1 12) L P 3)) (mlN (X.1 12) L P 4)) (mlN (X.1 12) L P 5)))), (0, .ref (ad G 718))]) hx hb dX5_readWord_26 hl_162 (by decide) rfl (fun ls_172 hl_173 => ?_)
              refine lv_iload hx hb dX5_readWord_28 (lv_at hl_173 0 rfl) ?_
              refine lv_aload_n hx hb dX5_readWord_30 rfl (lv_at hl_173 1 rfl) ?_
              refine g_efN C hS_169 C.2.2.2.2.2.2.2.2.2.2.2.1 (i := 6) (by decide) nw_25 dX5_readWord_31 ?_
              refine g_calli (va_runV (As := []) (rest := [.int (nI (mlN (X.1 12) L P 6))]) C.1 (cJ0_length_8abf5_ok l G X 6 (by decide)) (cwV 0 C.1.2.2.2.2 (gV qw_1373 qw_482 qw_483 qw_79 qw_484) rfl rfl rfl (by decide +kernel) ⟨Nat.le_of_ble_eq_true rfl, Nat.le_of_ble_eq_true rfl⟩) (g_rStr C hW_168 hS_169 (by decide) []) rfl rfl hl_173.1 rfl (lv_room (Nat.le_of_ble_eq_true rfl)) dX5_readWord_34 ⟨Nat.zero_le _, Nat.zero_le _⟩) hS_169 (fun r_176 Y_175 H_177 locs_178 hW_179 hS_180 h_174 => ?_)
              obtain ⟨h_174, hy_181⟩ := h_174
              replace hy_181 := hy_181.symm
              subst hy_181
              subst h_174
              refine lv_icmp_ne (tgt := 53) hx hb dX5_readWord_37 (by decide) (fun b_182 => ?_) (fun b_182 => ?_)
              · have fb_182 : ¬ mlN (X.1 12) L P 6 = strL.getD 6 0 := fun q9 => b_182 ((nI_eq (a := mlN (X.1 12) L P 6) (b := strL.getD 6 0) (by omega) (by omega)).mpr q9)
                refine lv_iload_n hx hb dX5_readWord_53 rfl (lv_at hl_173 3 rfl) ?_
                refine lv_iload hx hb dX5_readWord_54 (lv_at hl_173 0 rfl) ?_
                refine va_mmax C.1.1 C.1.2.1 (C.1.2.2.1.trans hl_173.1.symm) C.1.2.2.2.1 (C.1.2.2.2.2 _ (mc qw_1389)) (C.1.2.2.2.2 _ (mc qwx_static)) (C.1.2.2.2.2 _ (mc qwm_init)) (C.1.2.2.2.2 _ (mc qwx_code)) (Nat.le_of_ble_eq_true rfl) (Nat.le_of_ble_eq_true rfl) (Nat.zero_le _) (Nat.zero_le _) dX5_readWord_56 ?_
                refine g_top (y := nI (max (max (max (max (max (max (max 0 (mlN (X.1 12) L P 0)) (mlN (X.1 12) L P 1)) (mlN (X.1 12) L P 2)) (mlN (X.1 12) L P 3)) (mlN (X.1 12) L P 4)) (mlN (X.1 12) L P 5)) (mlN (X.1 12) L P 6))) (imaxN (a := max (max (max (max (max (max 0 (mlN (X.1 12) L P 0)) (mlN (X.1 12) L P 1)) (mlN (X.1 12) L P 2)) (mlN (X.1 12) L P 3)) (mlN (X.1 12) L P 4)) (mlN (X.1 12) L P 5)) (b := mlN (X.1 12) L P 6) (by omega) (by omega)) ?_
                refine lv_istore_n (lv' := [(1, .int (nI (max (max (max (max (max (max (max 0 (mlN (X.1 12) L P 0)) (mlN (X.1 12) L P 1)) (mlN (X.1 12) L P 2)) (mlN (X.1 12) L P 3)) (mlN (X.1 12) L P 4)) (mlN (X.1 12) L P 5)) (mlN (X.1 12) L P 6)))), (4, .int (nI (mlN (X.1 12) L P 6))), (3, .ref (cy G (20 + 6))), (2, .int 6), (0, .ref (ad G 718))]) hx hb dX5_readWord_59 rfl hl_173 (by decide) rfl (fun ls_183 hl_184 => ?_)
                refine lv_iinc (v := 7) (lv' := [(2, .int 7), (1, .int (nI (max (max (max (max (max (max (max 0 (mlN (X.1 12) L P 0)) (mlN (X.1 12) L P 1)) (mlN (X.1 12) L P 2)) (mlN (X.1 12) L P 3)) (mlN (X.1 12) L P 4)) (mlN (X.1 12) L P 5)) (mlN (X.1 12) L P 6)))), (4, .int (nI (mlN (X.1 12) L P 6))), (3, .ref (cy G (20 + 6))), (0, .ref (ad G 718))]) hx hb dX5_readWord_60 hl_184 (k := 3) rfl (by decide) (by decide) rfl (fun ls_185 hl_186 => ?_)
                refine lv_goto (tgt := 4) hx hb dX5_readWord_63 (by decide) ?_
                refine lv_iload_n hx hb dX5_readWord_4 rfl (lv_at hl_186 0 rfl) ?_
                refine va_getsN (v := .ref (cy G 42)) C.1.1 C.1.2.1 C.2.2.2.2.2.2.2.2.1.1 hS_180 C.1.2.2.2.1 (va_Nw.use rfl (C.2.2.1.1 _ nw_24)) (fun _ h => h) dX5_readWord_5 ?_
                refine va_tlen C.1.1 C.1.2.1 C.2.2.2.2.2.2.2.2.1.2 hS_180 (v := 10) rfl dX5_readWord_8 ?_
                refine lv_icmp_ge (tgt := 66) hx hb dX5_readWord_9 (by decide) (fun h9 => absurd h9 (by decide)) (fun _ => ?_)
                refine va_getsN (v := .ref (cy G 42)) C.1.1 C.1.2.1 C.2.2.2.2.2.2.2.2.1.1 hS_180 C.1.2.2.2.1 (va_Nw.use rfl (C.2.2.1.1 _ nw_24)) (fun _ h => h) dX5_readWord_12 ?_
                refine lv_iload_n hx hb dX5_readWord_15 rfl (lv_at hl_186 0 rfl) ?_
                refine vb_tq (v := .ref (cy G (20 + 7))) C.1.1 C.1.2.1 C.2.2.2.2.2.2.2.2.1.2 hS_180 (vlit (by decide)) rfl dX5_readWord_16 ?_
                refine lv_astore_n (lv' := [(3, .ref (cy G (20 + 7))), (2, .int 7), (1, .int (nI (max (max (max (max (max (max (max 0 (mlN (X.1 12) L P 0)) (mlN (X.1 12) L P 1)) (mlN (X.1 12) L P 2)) (mlN (X.1 12) L P 3)) (mlN (X.1 12) L P 4)) (mlN (X.1 12) L P 5)) (mlN (X.1 12) L P 6)))), (4, .int (nI (mlN (X.1 12) L P 6))), (0, .ref (ad G 718))]) hx hb dX5_readWord_17 rfl hl_186 (by decide) rfl (fun ls_187 hl_188 => ?_)
                refine lv_aload_n hx hb dX5_readWord_18 rfl (lv_at hl_188 4 rfl) ?_
                refine lv_aload_n hx hb dX5_readWord_19 rfl (lv_at hl_188 0 rfl) ?_
                refine g_efN C hS_180 C.2.2.2.2.2.2.2.2.2.2.2.1 (i := 7) (by decide) nw_25 dX5_readWord_20 ?_
                refine g_calli (va_runV (As := [.ref (cy G (50 + 7))]) (rest := []) C.1 (cX5_matchedLength_ok l G X L P hL (by omega) eL eP 7 (by decide)) (cwV 1 C.1.2.2.2.2 (gV qw_1369 qw_1371 qw_21 qw_76 qw_1372) rfl rfl rfl (by decide +kernel) ⟨Nat.le_of_ble_eq_true rfl, Nat.le_of_ble_eq_true rfl⟩) (g_rScript C hW_179 hS_180 [.ref (cy G (50 + 7))]) rfl rfl hl_188.1 rfl (lv_room (Nat.le_of_ble_eq_true rfl)) dX5_readWord_23 ⟨Nat.zero_le _, Nat.zero_le _⟩) hS_180 (fun r_190 Y_191 H_192 locs_193 hW_194 hS_195 h_189 => ?_)
                obtain ⟨h_189, hy_196⟩ := h_189
                replace hy_196 := hy_196.symm
                subst hy_196
                replace h_189 : r_190 = nI (mlN (X.1 12) L P 7) := h_189
                subst h_189
                have bm_197 := mlN_le (t := X.1 12) (L := L) (P := P) (si := 7) (by omega) (by omega)
                have lbm_197 := strlt 7 (by decide)
                refine lv_istore (lv' := [(4, .int (nI (mlN (X.1 12) L P 7))), (3, .ref (cy G (20 + 7))), (2, .int 7), (1, .int (nI (max (max (max (max (max (max (max 0 (mlN (X.1 12) L P 0)) (mlN (X.1 12) L P 1)) (mlN (X.1 12) L P 2)) (mlN (X.1 12) L P 3)) (mlN (X.1 12) L P 4)) (mlN (X.1 12) L P 5)) (mlN (X.1 12) L P 6)))), (0, .ref (ad G 718))]) hx hb dX5_readWord_26 hl_188 (by decide) rfl (fun ls_198 hl_199 => ?_)
                refine lv_iload hx hb dX5_readWord_28 (lv_at hl_199 0 rfl) ?_
                refine lv_aload_n hx hb dX5_readWord_30 rfl (lv_at hl_199 1 rfl) ?_
                refine g_efN C hS_195 C.2.2.2.2.2.2.2.2.2.2.2.1 (i := 7) (by decide) nw_25 dX5_readWord_31 ?_
                refine g_calli (va_runV (As := []) (rest := [.int (nI (mlN (X.1 12) L P 7))]) C.1 (cJ0_length_8abf5_ok l G X 7 (by decide)) (cwV 0 C.1.2.2.2.2 (gV qw_1373 qw_482 qw_483 qw_79 qw_484) rfl rfl rfl (by decide +kernel) ⟨Nat.le_of_ble_eq_true rfl, Nat.le_of_ble_eq_true rfl⟩) (g_rStr C hW_194 hS_195 (by decide) []) rfl rfl hl_199.1 rfl (lv_room (Nat.le_of_ble_eq_true rfl)) dX5_readWord_34 ⟨Nat.zero_le _, Nat.zero_le _⟩) hS_195 (fun r_202 Y_201 H_203 locs_204 hW_205 hS_206 h_200 => ?_)
                obtain ⟨h_200, hy_207⟩ := h_200
                replace hy_207 := hy_207.symm
                subst hy_207
                subst h_200
                refine lv_icmp_ne (tgt := 53) hx hb dX5_readWord_37 (by decide) (fun b_208 => ?_) (fun b_208 => ?_)
                · have fb_208 : ¬ mlN (X.1 12) L P 7 = strL.getD 7 0 := fun q9 => b_208 ((nI_eq (a := mlN (X.1 12) L P 7) (b := strL.getD 7 0) (by omega) (by omega)).mpr q9)
                  refine lv_iload_n hx hb dX5_readWord_53 rfl (lv_at hl_199 3 rfl) ?_
                  refine lv_iload hx hb dX5_readWord_54 (lv_at hl_199 0 rfl) ?_
                  refine va_mmax C.1.1 C.1.2.1 (C.1.2.2.1.trans hl_199.1.symm) C.1.2.2.2.1 (C.1.2.2.2.2 _ (mc qw_1389)) (C.1.2.2.2.2 _ (mc qwx_static)) (C.1.2.2.2.2 _ (mc qwm_init)) (C.1.2.2.2.2 _ (mc qwx_code)) (Nat.le_of_ble_eq_true rfl) (Nat.le_of_ble_eq_true rfl) (Nat.zero_le _) (Nat.zero_le _) dX5_readWord_56 ?_
                  refine g_top (y := nI (max (max (max (max (max (max (max (max 0 (mlN (X.1 12) L P 0)) (mlN (X.1 12) L P 1)) (mlN (X.1 12) L P 2)) (mlN (X.1 12) L P 3)) (mlN (X.1 12) L P 4)) (mlN (X.1 12) L P 5)) (mlN (X.1 12) L P 6)) (mlN (X.1 12) L P 7))) (imaxN (a := max (max (max (max (max (max (max 0 (mlN (X.1 12) L P 0)) (mlN (X.1 12) L P 1)) (mlN (X.1 12) L P 2)) (mlN (X.1 12) L P 3)) (mlN (X.1 12) L P 4)) (mlN (X.1 12) L P 5)) (mlN (X.1 12) L P 6)) (b := mlN (X.1 12) L P 7) (by omega) (by omega)) ?_
                  refine lv_istore_n (lv' := [(1, .int (nI (max (max (max (max (max (max (max (max 0 (mlN (X.1 12) L P 0)) (mlN (X.1 12) L P 1)) (mlN (X.1 12) L P 2)) (mlN (X.1 12) L P 3)) (mlN (X.1 12) L P 4)) (mlN (X.1 12) L P 5)) (mlN (X.1 12) L P 6)) (mlN (X.1 12) L P 7)))), (4, .int (nI (mlN (X.1 12) L P 7))), (3, .ref (cy G (20 + 7))), (2, .int 7), (0, .ref (ad G 718))]) hx hb dX5_readWord_59 rfl hl_199 (by decide) rfl (fun ls_209 hl_210 => ?_)
                  refine lv_iinc (v := 8) (lv' := [(2, .int 8), (1, .int (nI (max (max (max (max (max (max (max (max 0 (mlN (X.1 12) L P 0)) (mlN (X.1 12) L P 1)) (mlN (X.1 12) L P 2)) (mlN (X.1 12) L P 3)) (mlN (X.1 12) L P 4)) (mlN (X.1 12) L P 5)) (mlN (X.1 12) L P 6)) (mlN (X.1 12) L P 7)))), (4, .int (nI (mlN (X.1 12) L P 7))), (3, .ref (cy G (20 + 7))), (0, .ref (ad G 718))]) hx hb dX5_readWord_60 hl_210 (k := 3) rfl (by decide) (by decide) rfl (fun ls_211 hl_212 => ?_)
                  refine lv_goto (tgt := 4) hx hb dX5_readWord_63 (by decide) ?_
                  refine lv_iload_n hx hb dX5_readWord_4 rfl (lv_at hl_212 0 rfl) ?_
                  refine va_getsN (v := .ref (cy G 42)) C.1.1 C.1.2.1 C.2.2.2.2.2.2.2.2.1.1 hS_206 C.1.2.2.2.1 (va_Nw.use rfl (C.2.2.1.1 _ nw_24)) (fun _ h => h) dX5_readWord_5 ?_
                  refine va_tlen C.1.1 C.1.2.1 C.2.2.2.2.2.2.2.2.1.2 hS_206 (v := 10) rfl dX5_readWord_8 ?_
                  refine lv_icmp_ge (tgt := 66) hx hb dX5_readWord_9 (by decide) (fun h9 => absurd h9 (by decide)) (fun _ => ?_)
                  refine va_getsN (v := .ref (cy G 42)) C.1.1 C.1.2.1 C.2.2.2.2.2.2.2.2.1.1 hS_206 C.1.2.2.2.1 (va_Nw.use rfl (C.2.2.1.1 _ nw_24)) (fun _ h => h) dX5_readWord_12 ?_
                  refine lv_iload_n hx hb dX5_readWord_15 rfl (lv_at hl_212 0 rfl) ?_
                  refine vb_tq (v := .ref (cy G (20 + 8))) C.1.1 C.1.2.1 C.2.2.2.2.2.2.2.2.1.2 hS_206 (vlit (by decide)) rfl dX5_readWord_16 ?_
                  refine lv_astore_n (lv' := [(3, .ref (cy G (20 + 8))), (2, .int 8), (1, .int (nI (max (max (max (max (max (max (max (max 0 (mlN (X.1 12) L P 0)) (mlN (X.1 12) L P 1)) (mlN (X.1 12) L P 2)) (mlN (X.1 12) L P 3)) (mlN (X.1 12) L P 4)) (mlN (X.1 12) L P 5)) (mlN (X.1 12) L P 6)) (mlN (X.1 12) L P 7)))), (4, .int (nI (mlN (X.1 12) L P 7))), (0, .ref (ad G 718))]) hx hb dX5_readWord_17 rfl hl_212 (by decide) rfl (fun ls_213 hl_214 => ?_)
                  refine lv_aload_n hx hb dX5_readWord_18 rfl (lv_at hl_214 4 rfl) ?_
                  refine lv_aload_n hx hb dX5_readWord_19 rfl (lv_at hl_214 0 rfl) ?_
                  refine g_efN C hS_206 C.2.2.2.2.2.2.2.2.2.2.2.1 (i := 8) (by decide) nw_25 dX5_readWord_20 ?_
                  refine g_calli (va_runV (As := [.ref (cy G (50 + 8))]) (rest := []) C.1 (cX5_matchedLength_ok l G X L P hL (by omega) eL eP 8 (by decide)) (cwV 1 C.1.2.2.2.2 (gV qw_1369 qw_1371 qw_21 qw_76 qw_1372) rfl rfl rfl (by decide +kernel) ⟨Nat.le_of_ble_eq_true rfl, Nat.le_of_ble_eq_true rfl⟩) (g_rScript C hW_205 hS_206 [.ref (cy G (50 + 8))]) rfl rfl hl_214.1 rfl (lv_room (Nat.le_of_ble_eq_true rfl)) dX5_readWord_23 ⟨Nat.zero_le _, Nat.zero_le _⟩) hS_206 (fun r_216 Y_217 H_218 locs_219 hW_220 hS_221 h_215 => ?_)
                  obtain ⟨h_215, hy_222⟩ := h_215
                  replace hy_222 := hy_222.symm
                  subst hy_222
                  replace h_215 : r_216 = nI (mlN (X.1 12) L P 8) := h_215
                  subst h_215
                  have bm_223 := mlN_le (t := X.1 12) (L := L) (P := P) (si := 8) (by omega) (by omega)
                  have lbm_223 := strlt 8 (by decide)
                  refine lv_istore (lv' := [(4, .int (nI (mlN (X.1 12) L P 8))), (3, .ref (cy G (20 + 8))), (2, .int 8), (1, .int (nI (max (max (max (max (max (max (max (max 0 (mlN (X.1 12) L P 0)) (mlN (X.1 12) L P 1)) (mlN (X.1 12) L P 2)) (mlN (X.1 12) L P 3)) (mlN (X.1 12) L P 4)) (mlN (X.1 12) L P 5)) (mlN (X.1 12) L P 6)) (mlN (X.1 12) L P 7)))), (0, .ref (ad G 718))]) hx hb dX5_readWord_26 hl_214 (by decide) rfl (fun ls_224 hl_225 => ?_)
                  refine lv_iload hx hb dX5_readWord_28 (lv_at hl_225 0 rfl) ?_
                  refine lv_aload_n hx hb dX5_readWord_30 rfl (lv_at hl_225 1 rfl) ?_
                  refine g_efN C hS_221 C.2.2.2.2.2.2.2.2.2.2.2.1 (i := 8) (by decide) nw_25 dX5_readWord_31 ?_
                  refine g_calli (va_runV (As := []) (rest := [.int (nI (mlN (X.1 12) L P 8))]) C.1 (cJ0_length_8abf5_ok l G X 8 (by decide)) (cwV 0 C.1.2.2.2.2 (gV qw_1373 qw_482 qw_483 qw_79 qw_484) rfl rfl rfl (by decide +kernel) ⟨Nat.le_of_ble_eq_true rfl, Nat.le_of_ble_eq_true rfl⟩) (g_rStr C hW_220 hS_221 (by decide) []) rfl rfl hl_225.1 rfl (lv_room (Nat.le_of_ble_eq_true rfl)) dX5_readWord_34 ⟨Nat.zero_le _, Nat.zero_le _⟩) hS_221 (fun r_228 Y_227 H_229 locs_230 hW_231 hS_232 h_226 => ?_)
                  obtain ⟨h_226, hy_233⟩ := h_226
                  replace hy_233 := hy_233.symm
                  subst hy_233
                  subst h_226
                  refine lv_icmp_ne (tgt := 53) hx hb dX5_readWord_37 (by decide) (fun b_234 => ?_) (fun b_234 => ?_)
                  · have fb_234 : ¬ mlN (X.1 12) L P 8 = strL.getD 8 0 := fun q9 => b_234 ((nI_eq (a := mlN (X.1 12) L P 8) (b := strL.getD 8 0) (by omega) (by omega)).mpr q9)
                    refine lv_iload_n hx hb dX5_readWord_53 rfl (lv_at hl_225 3 rfl) ?_
                    refine lv_iload hx hb dX5_readWord_54 (lv_at hl_225 0 rfl) ?_
                    refine va_mmax C.1.1 C.1.2.1 (C.1.2.2.1.trans hl_225.1.symm) C.1.2.2.2.1 (C.1.2.2.2.2 _ (mc qw_1389)) (C.1.2.2.2.2 _ (mc qwx_static)) (C.1.2.2.2.2 _ (mc qwm_init)) (C.1.2.2.2.2 _ (mc qwx_code)) (Nat.le_of_ble_eq_true rfl) (Nat.le_of_ble_eq_true rfl) (Nat.zero_le _) (Nat.zero_le _) dX5_readWord_56 ?_
                    refine g_top (y := nI (max (max (max (max (max (max (max (max (max 0 (mlN (X.1 12) L P 0)) (mlN (X.1 12) L P 1)) (mlN (X.1 12) L P 2)) (mlN (X.1 12) L P 3)) (mlN (X.1 12) L P 4)) (mlN (X.1 12) L P 5)) (mlN (X.1 12) L P 6)) (mlN (X.1 12) L P 7)) (mlN (X.1 12) L P 8))) (imaxN (a := max (max (max (max (max (max (max (max 0 (mlN (X.1 12) L P 0)) (mlN (X.1 12) L P 1)) (mlN (X.1 12) L P 2)) (mlN (X.1 12) L P 3)) (mlN (X.1 12) L P 4)) (mlN (X.1 12) L P 5)) (mlN (X.1 12) L P 6)) (mlN (X.1 12) L P 7)) (b := mlN (X.1 12) L P 8) (by omega) (by omega)) ?_
                    refine lv_istore_n (lv' := [(1, .int (nI (max (max (max (max (max (max (max (max (max 0 (mlN (X.1 12) L P 0)) (mlN (X.1 12) L P 1)) (mlN (X.1 12) L P 2)) (mlN (X.1 12) L P 3)) (mlN (X.1 12) L P 4)) (mlN (X.1 12) L P 5)) (mlN (X.1 12) L P 6)) (mlN (X.1 12) L P 7)) (mlN (X.1 12) L P 8)))), (4, .int (nI (mlN (X.1 12) L P 8))), (3, .ref (cy G (20 + 8))), (2, .int 8), (0, .ref (ad G 718))]) hx hb dX5_readWord_59 rfl hl_225 (by decide) rfl (fun ls_235 hl_236 => ?_)
                    refine lv_iinc (v := 9) (lv' := [(2, .int 9), (1, .int (nI (max (max (max (max (max (max (max (max (max 0 (mlN (X.1 12) L P 0)) (mlN (X.1 12) L P 1)) (mlN (X.1 12) L P 2)) (mlN (X.1 12) L P 3)) (mlN (X.1 12) L P 4)) (mlN (X.1 12) L P 5)) (mlN (X.1 12) L P 6)) (mlN (X.1 12) L P 7)) (mlN (X.1 12) L P 8)))), (4, .int (nI (mlN (X.1 12) L P 8))), (3, .ref (cy G (20 + 8))), (0, .ref (ad G 718))]) hx hb dX5_readWord_60 hl_236 (k := 3) rfl (by decide) (by decide) rfl (fun ls_237 hl_238 => ?_)
                    refine lv_goto (tgt := 4) hx hb dX5_readWord_63 (by decide) ?_
                    refine lv_iload_n hx hb dX5_readWord_4 rfl (lv_at hl_238 0 rfl) ?_
                    refine va_getsN (v := .ref (cy G 42)) C.1.1 C.1.2.1 C.2.2.2.2.2.2.2.2.1.1 hS_232 C.1.2.2.2.1 (va_Nw.use rfl (C.2.2.1.1 _ nw_24)) (fun _ h => h) dX5_readWord_5 ?_
                    refine va_tlen C.1.1 C.1.2.1 C.2.2.2.2.2.2.2.2.1.2 hS_232 (v := 10) rfl dX5_readWord_8 ?_
                    refine lv_icmp_ge (tgt := 66) hx hb dX5_readWord_9 (by decide) (fun h9 => absurd h9 (by decide)) (fun _ => ?_)
                    refine va_getsN (v := .ref (cy G 42)) C.1.1 C.1.2.1 C.2.2.2.2.2.2.2.2.1.1 hS_232 C.1.2.2.2.1 (va_Nw.use rfl (C.2.2.1.1 _ nw_24)) (fun _ h => h) dX5_readWord_12 ?_
                    refine lv_iload_n hx hb dX5_readWord_15 rfl (lv_at hl_238 0 rfl) ?_
                    refine vb_tq (v := .ref (cy G (20 + 9))) C.1.1 C.1.2.1 C.2.2.2.2.2.2.2.2.1.2 hS_232 (vlit (by decide)) rfl dX5_readWord_16 ?_
                    refine lv_astore_n (lv' := [(3, .ref (cy G (20 + 9))), (2, .int 9), (1, .int (nI (max (max (max (max (max (max (max (max (max 0 (mlN (X.1 12) L P 0)) (mlN (X.1 12) L P 1)) (mlN (X.1 12) L P 2)) (mlN (X.1 12) L P 3)) (mlN (X.1 12) L P 4)) (mlN (X.1 12) L P 5)) (mlN (X.1 12) L P 6)) (mlN (X.1 12) L P 7)) (mlN (X.1 12) L P 8)))), (4, .int (nI (mlN (X.1 12) L P 8))), (0, .ref (ad G 718))]) hx hb dX5_readWord_17 rfl hl_238 (by decide) rfl (fun ls_239 hl_240 => ?_)
                    refine lv_aload_n hx hb dX5_readWord_18 rfl (lv_at hl_240 4 rfl) ?_
                    refine lv_aload_n hx hb dX5_readWord_19 rfl (lv_at hl_240 0 rfl) ?_
                    refine g_efN C hS_232 C.2.2.2.2.2.2.2.2.2.2.2.1 (i := 9) (by decide) nw_25 dX5_readWord_20 ?_
                    refine g_calli (va_runV (As := [.ref (cy G (50 + 9))]) (rest := []) C.1 (cX5_matchedLength_ok l G X L P hL (by omega) eL eP 9 (by decide)) (cwV 1 C.1.2.2.2.2 (gV qw_1369 qw_1371 qw_21 qw_76 qw_1372) rfl rfl rfl (by decide +kernel) ⟨Nat.le_of_ble_eq_true rfl, Nat.le_of_ble_eq_true rfl⟩) (g_rScript C hW_231 hS_232 [.ref (cy G (50 + 9))]) rfl rfl hl_240.1 rfl (lv_room (Nat.le_of_ble_eq_true rfl)) dX5_readWord_23 ⟨Nat.zero_le _, Nat.zero_le _⟩) hS_232 (fun r_242 Y_243 H_244 locs_245 hW_246 hS_247 h_241 => ?_)
                    obtain ⟨h_241, hy_248⟩ := h_241
                    replace hy_248 := hy_248.symm
                    subst hy_248
                    replace h_241 : r_242 = nI (mlN (X.1 12) L P 9) := h_241
                    subst h_241
                    have bm_249 := mlN_le (t := X.1 12) (L := L) (P := P) (si := 9) (by omega) (by omega)
                    have lbm_249 := strlt 9 (by decide)
                    refine lv_istore (lv' := [(4, .int (nI (mlN (X.1 12) L P 9))), (3, .ref (cy G (20 + 9))), (2, .int 9), (1, .int (nI (max (max (max (max (max (max (max (max (max 0 (mlN (X.1 12) L P 0)) (mlN (X.1 12) L P 1)) (mlN (X.1 12) L P 2)) (mlN (X.1 12) L P 3)) (mlN (X.1 12) L P 4)) (mlN (X.1 12) L P 5)) (mlN (X.1 12) L P 6)) (mlN (X.1 12) L P 7)) (mlN (X.1 12) L P 8)))), (0, .ref (ad G 718))]) hx hb dX5_readWord_26 hl_240 (by decide) rfl (fun ls_250 hl_251 => ?_)
                    refine lv_iload hx hb dX5_readWord_28 (lv_at hl_251 0 rfl) ?_
                    refine lv_aload_n hx hb dX5_readWord_30 rfl (lv_at hl_251 1 rfl) ?_
                    refine g_efN C hS_247 C.2.2.2.2.2.2.2.2.2.2.2.1 (i := 9) (by decide) nw_25 dX5_readWord_31 ?_
                    refine g_calli (va_runV (As := []) (rest := [.int (nI (mlN (X.1 12) L P 9))]) C.1 (cJ0_length_8abf5_ok l G X 9 (by decide)) (cwV 0 C.1.2.2.2.2 (gV qw_1373 qw_482 qw_483 qw_79 qw_484) rfl rfl rfl (by decide +kernel) ⟨Nat.le_of_ble_eq_true rfl, Nat.le_of_ble_eq_true rfl⟩) (g_rStr C hW_246 hS_247 (by decide) []) rfl rfl hl_251.1 rfl (lv_room (Nat.le_of_ble_eq_true rfl)) dX5_readWord_34 ⟨Nat.zero_le _, Nat.zero_le _⟩) hS_247 (fun r_254 Y_253 H_255 locs_256 hW_257 hS_258 h_252 => ?_)
                    obtain ⟨h_252, hy_259⟩ := h_252
                    replace hy_259 := hy_259.symm
                    subst hy_259
                    subst h_252
                    refine lv_icmp_ne (tgt := 53) hx hb dX5_readWord_37 (by decide) (fun b_260 => ?_) (fun b_260 => ?_)
                    · have fb_260 : ¬ mlN (X.1 12) L P 9 = strL.getD 9 0 := fun q9 => b_260 ((nI_eq (a := mlN (X.1 12) L P 9) (b := strL.getD 9 0) (by omega) (by omega)).mpr q9)
                      refine lv_iload_n hx hb dX5_readWord_53 rfl (lv_at hl_251 3 rfl) ?_
                      refine lv_iload hx hb dX5_readWord_54 (lv_at hl_251 0 rfl) ?_
                      refine va_mmax C.1.1 C.1.2.1 (C.1.2.2.1.trans hl_251.1.symm) C.1.2.2.2.1 (C.1.2.2.2.2 _ (mc qw_1389)) (C.1.2.2.2.2 _ (mc qwx_static)) (C.1.2.2.2.2 _ (mc qwm_init)) (C.1.2.2.2.2 _ (mc qwx_code)) (Nat.le_of_ble_eq_true rfl) (Nat.le_of_ble_eq_true rfl) (Nat.zero_le _) (Nat.zero_le _) dX5_readWord_56 ?_
                      refine g_top (y := nI (max (max (max (max (max (max (max (max (max (max 0 (mlN (X.1 12) L P 0)) (mlN (X.1 12) L P 1)) (mlN (X.1 12) L P 2)) (mlN (X.1 12) L P 3)) (mlN (X.1 12) L P 4)) (mlN (X.1 12) L P 5)) (mlN (X.1 12) L P 6)) (mlN (X.1 12) L P 7)) (mlN (X.1 12) L P 8)) (mlN (X.1 12) L P 9))) (imaxN (a := max (max (max (max (max (max (max (max (max 0 (mlN (X.1 12) L P 0)) (mlN (X.1 12) L P 1)) (mlN (X.1 12) L P 2)) (mlN (X.1 12) L P 3)) (mlN (X.1 12) L P 4)) (mlN (X.1 12) L P 5)) (mlN (X.1 12) L P 6)) (mlN (X.1 12) L P 7)) (mlN (X.1 12) L P 8)) (b := mlN (X.1 12) L P 9) (by omega) (by omega)) ?_
                      refine lv_istore_n (lv' := [(1, .int (nI (max (max (max (max (max (max (max (max (max (max 0 (mlN (X.1 12) L P 0)) (mlN (X.1 12) L P 1)) (mlN (X.1 12) L P 2)) (mlN (X.1 12) L P 3)) (mlN (X.1 12) L P 4)) (mlN (X.1 12) L P 5)) (mlN (X.1 12) L P 6)) (mlN (X.1 12) L P 7)) (mlN (X.1 12) L P 8)) (mlN (X.1 12) L P 9)))), (4, .int (nI (mlN (X.1 12) L P 9))), (3, .ref (cy G (20 + 9))), (2, .int 9), (0, .ref (ad G 718))]) hx hb dX5_readWord_59 rfl hl_251 (by decide) rfl (fun ls_261 hl_262 => ?_)
                      refine lv_iinc (v := 10) (lv' := [(2, .int 10), (1, .int (nI (max (max (max (max (max (max (max (max (max (max 0 (mlN (X.1 12) L P 0)) (mlN (X.1 12) L P 1)) (mlN (X.1 12) L P 2)) (mlN (X.1 12) L P 3)) (mlN (X.1 12) L P 4)) (mlN (X.1 12) L P 5)) (mlN (X.1 12) L P 6)) (mlN (X.1 12) L P 7)) (mlN (X.1 12) L P 8)) (mlN (X.1 12) L P 9)))), (4, .int (nI (mlN (X.1 12) L P 9))), (3, .ref (cy G (20 + 9))), (0, .ref (ad G 718))]) hx hb dX5_readWord_60 hl_262 (k := 3) rfl (by decide) (by decide) rfl (fun ls_263 hl_264 => ?_)
                      refine lv_goto (tgt := 4) hx hb dX5_readWord_63 (by decide) ?_
                      refine lv_iload_n hx hb dX5_readWord_4 rfl (lv_at hl_264 0 rfl) ?_
                      refine va_getsN (v := .ref (cy G 42)) C.1.1 C.1.2.1 C.2.2.2.2.2.2.2.2.1.1 hS_258 C.1.2.2.2.1 (va_Nw.use rfl (C.2.2.1.1 _ nw_24)) (fun _ h => h) dX5_readWord_5 ?_
                      refine va_tlen C.1.1 C.1.2.1 C.2.2.2.2.2.2.2.2.1.2 hS_258 (v := 10) rfl dX5_readWord_8 ?_
                      refine lv_icmp_ge (tgt := 66) hx hb dX5_readWord_9 (by decide) (fun _ => ?_) (fun h9 => absurd h9 (by decide))
                      refine lv_aload_n hx hb dX5_readWord_66 rfl (lv_at hl_264 4 rfl) ?_
                      refine lv_dup hx hb dX5_readWord_67 rfl ?_
                      refine gSc_position C hW_257 (hwc hwX5) (mc qw_233) dX5_readWord_68 ?_
                      refine g_top (y := nI P) eP ?_
                      refine lv_iload_n hx hb dX5_readWord_71 rfl (lv_at hl_264 1 rfl) ?_
                      refine lv_iadd hx hb dX5_readWord_72 ?_
                      refine g_top (y := nI (P + (max (max (max (max (max (max (max (max (max (max 0 (mlN (X.1 12) L P 0)) (mlN (X.1 12) L P 1)) (mlN (X.1 12) L P 2)) (mlN (X.1 12) L P 3)) (mlN (X.1 12) L P 4)) (mlN (X.1 12) L P 5)) (mlN (X.1 12) L P 6)) (mlN (X.1 12) L P 7)) (mlN (X.1 12) L P 8)) (mlN (X.1 12) L P 9)))) (nI_add P (max (max (max (max (max (max (max (max (max (max 0 (mlN (X.1 12) L P 0)) (mlN (X.1 12) L P 1)) (mlN (X.1 12) L P 2)) (mlN (X.1 12) L P 3)) (mlN (X.1 12) L P 4)) (mlN (X.1 12) L P 5)) (mlN (X.1 12) L P 6)) (mlN (X.1 12) L P 7)) (mlN (X.1 12) L P 8)) (mlN (X.1 12) L P 9))) ?_
                      refine gSc_positionP C hW_257 hS_258 (hwc hwX5) (mc qw_233) dX5_readWord_73 (fun H_265 locs_266 hW_267 hS_268 => ?_)
                      obtain ⟨w_269, ew_269⟩ : ∃ Z9, Z9 = upd (X.1 11) (6) (nI (P + (max (max (max (max (max (max (max (max (max (max 0 (mlN (X.1 12) L P 0)) (mlN (X.1 12) L P 1)) (mlN (X.1 12) L P 2)) (mlN (X.1 12) L P 3)) (mlN (X.1 12) L P 4)) (mlN (X.1 12) L P 5)) (mlN (X.1 12) L P 6)) (mlN (X.1 12) L P 7)) (mlN (X.1 12) L P 8)) (mlN (X.1 12) L P 9)))) := ⟨_, rfl⟩
                      have kn_270 : w_269 (5) = nI L := by rw [ew_269]; exact (pk_un (by omega)).trans eL
                      have kn_271 : w_269 (6) = nI (P + (max (max (max (max (max (max (max (max (max (max 0 (mlN (X.1 12) L P 0)) (mlN (X.1 12) L P 1)) (mlN (X.1 12) L P 2)) (mlN (X.1 12) L P 3)) (mlN (X.1 12) L P 4)) (mlN (X.1 12) L P 5)) (mlN (X.1 12) L P 6)) (mlN (X.1 12) L P 7)) (mlN (X.1 12) L P 8)) (mlN (X.1 12) L P 9))) := by rw [ew_269]; exact pk_us
                      have hW_272 : Wd G (setRow X 11 w_269) H_265 := Wd.cast (by rw [ew_269]; exact st_base) hW_267
                      refine lv_null hx hb dX5_readWord_76 ?_
                      exact g_eret C hr hlk hW_272 hS_268 dX5_readWord_77 (r := none) (by subst ew_269; exact ⟨by simp only [wordR, wdF, Nat.reduceAdd, b_26, b_52, b_78, b_104, b_130, b_156, b_182, b_208, b_234, b_260, if_true, if_false]; first | done | rfl, by simp only [wordR, wdF, Nat.reduceAdd, b_26, b_52, b_78, b_104, b_130, b_156, b_182, b_208, b_234, b_260, if_true, if_false]; first | done | rfl⟩)
                    · have fb_260 : mlN (X.1 12) L P 9 = strL.getD 9 0 := (nI_eq (a := mlN (X.1 12) L P 9) (b := strL.getD 9 0) (by omega) (by omega)).mp b_260
                      refine lv_aload_n hx hb dX5_readWord_40 rfl (lv_at hl_251 4 rfl) ?_
                      refine lv_dup hx hb dX5_readWord_41 rfl ?_
                      refine gSc_position C hW_257 (hwc hwX5) (mc qw_233) dX5_readWord_42 ?_
                      refine g_top (y := nI P) eP ?_
                      refine lv_iload hx hb dX5_readWord_45 (lv_at hl_251 0 rfl) ?_
                      refine lv_iadd hx hb dX5_readWord_47 ?_
                      refine g_top (y := nI (P + (mlN (X.1 12) L P 9))) (nI_add P (mlN (X.1 12) L P 9)) ?_
                      refine gSc_positionP C hW_257 hS_258 (hwc hwX5) (mc qw_233) dX5_readWord_48 (fun H_273 locs_274 hW_275 hS_276 => ?_)
                      obtain ⟨w_277, ew_277⟩ : ∃ Z9, Z9 = upd (X.1 11) (6) (nI (P + (mlN (X.1 12) L P 9))) := ⟨_, rfl⟩
                      have kn_278 : w_277 (5) = nI L := by rw [ew_277]; exact (pk_un (by omega)).trans eL
                      have kn_279 : w_277 (6) = nI (P + (mlN (X.1 12) L P 9)) := by rw [ew_277]; exact pk_us
                      have hW_280 : Wd G (setRow X 11 w_277) H_273 := Wd.cast (by rw [ew_277]; exact st_base) hW_275
                      refine lv_aload_n hx hb dX5_readWord_51 rfl (lv_at hl_251 1 rfl) ?_
                      exact g_eret C hr hlk hW_280 hS_276 dX5_readWord_52 (r := some 9) (by subst ew_277; exact ⟨by simp only [wordR, wdF, Nat.reduceAdd, b_26, b_52, b_78, b_104, b_130, b_156, b_182, b_208, b_234, b_260, if_true, if_false]; first | done | rfl, by simp only [wordR, wdF, Nat.reduceAdd, b_26, b_52, b_78, b_104, b_130, b_156, b_182, b_208, b_234, b_260, if_true, if_false]; first | done | rfl⟩)
                  · have fb_234 : mlN (X.1 12) L P 8 = strL.getD 8 0 := (nI_eq (a := mlN (X.1 12) L P 8) (b := strL.getD 8 0) (by omega) (by omega)).mp b_234
                    refine lv_aload_n hx hb dX5_readWord_40 rfl (lv_at hl_225 4 rfl) ?_
                    refine lv_dup hx hb dX5_readWord_41 rfl ?_
                    refine gSc_position C hW_231 (hwc hwX5) (mc qw_233) dX5_readWord_42 ?_
                    refine g_top (y := nI P) eP ?_
                    refine lv_iload hx hb dX5_readWord_45 (lv_at hl_225 0 rfl) ?_
                    refine lv_iadd hx hb dX5_readWord_47 ?_
                    refine g_top (y := nI (P + (mlN (X.1 12) L P 8))) (nI_add P (mlN (X.1 12) L P 8)) ?_
                    refine gSc_positionP C hW_231 hS_232 (hwc hwX5) (mc qw_233) dX5_readWord_48 (fun H_281 locs_282 hW_283 hS_284 => ?_)
                    obtain ⟨w_285, ew_285⟩ : ∃ Z9, Z9 = upd (X.1 11) (6) (nI (P + (mlN (X.1 12) L P 8))) := ⟨_, rfl⟩
                    have kn_286 : w_285 (5) = nI L := by rw [ew_285]; exact (pk_un (by omega)).trans eL
                    have kn_287 : w_285 (6) = nI (P + (mlN (X.1 12) L P 8)) := by rw [ew_285]; exact pk_us
                    have hW_288 : Wd G (setRow X 11 w_285) H_281 := Wd.cast (by rw [ew_285]; exact st_base) hW_283
                    refine lv_aload_n hx hb dX5_readWord_51 rfl (lv_at hl_225 1 rfl) ?_
                    exact g_eret C hr hlk hW_288 hS_284 dX5_readWord_52 (r := some 8) (by subst ew_285; exact ⟨by simp only [wordR, wdF, Nat.reduceAdd, b_26, b_52, b_78, b_104, b_130, b_156, b_182, b_208, b_234, if_true, if_false]; first | done | rfl, by simp only [wordR, wdF, Nat.reduceAdd, b_26, b_52, b_78, b_104, b_130, b_156, b_182, b_208, b_234, if_true, if_false]; first | done | rfl⟩)
                · have fb_208 : mlN (X.1 12) L P 7 = strL.getD 7 0 := (nI_eq (a := mlN (X.1 12) L P 7) (b := strL.getD 7 0) (by omega) (by omega)).mp b_208
                  refine lv_aload_n hx hb dX5_readWord_40 rfl (lv_at hl_199 4 rfl) ?_
                  refine lv_dup hx hb dX5_readWord_41 rfl ?_
                  refine gSc_position C hW_205 (hwc hwX5) (mc qw_233) dX5_readWord_42 ?_
                  refine g_top (y := nI P) eP ?_
                  refine lv_iload hx hb dX5_readWord_45 (lv_at hl_199 0 rfl) ?_
                  refine lv_iadd hx hb dX5_readWord_47 ?_
                  refine g_top (y := nI (P + (mlN (X.1 12) L P 7))) (nI_add P (mlN (X.1 12) L P 7)) ?_
                  refine gSc_positionP C hW_205 hS_206 (hwc hwX5) (mc qw_233) dX5_readWord_48 (fun H_289 locs_290 hW_291 hS_292 => ?_)
                  obtain ⟨w_293, ew_293⟩ : ∃ Z9, Z9 = upd (X.1 11) (6) (nI (P + (mlN (X.1 12) L P 7))) := ⟨_, rfl⟩
                  have kn_294 : w_293 (5) = nI L := by rw [ew_293]; exact (pk_un (by omega)).trans eL
                  have kn_295 : w_293 (6) = nI (P + (mlN (X.1 12) L P 7)) := by rw [ew_293]; exact pk_us
                  have hW_296 : Wd G (setRow X 11 w_293) H_289 := Wd.cast (by rw [ew_293]; exact st_base) hW_291
                  refine lv_aload_n hx hb dX5_readWord_51 rfl (lv_at hl_199 1 rfl) ?_
                  exact g_eret C hr hlk hW_296 hS_292 dX5_readWord_52 (r := some 7) (by subst ew_293; exact ⟨by simp only [wordR, wdF, Nat.reduceAdd, b_26, b_52, b_78, b_104, b_130, b_156, b_182, b_208, if_true, if_false]; first | done | rfl, by simp only [wordR, wdF, Nat.reduceAdd, b_26, b_52, b_78, b_104, b_130, b_156, b_182, b_208, if_true, if_false]; first | done | rfl⟩)
              · have fb_182 : mlN (X.1 12) L P 6 = strL.getD 6 0 := (nI_eq (a := mlN (X.1 12) L P 6) (b := strL.getD 6 0) (by omega) (by omega)).mp b_182
                refine lv_aload_n hx hb dX5_readWord_40 rfl (lv_at hl_173 4 rfl) ?_
                refine lv_dup hx hb dX5_readWord_41 rfl ?_
                refine gSc_position C hW_179 (hwc hwX5) (mc qw_233) dX5_readWord_42 ?_
                refine g_top (y := nI P) eP ?_
                refine lv_iload hx hb dX5_readWord_45 (lv_at hl_173 0 rfl) ?_
                refine lv_iadd hx hb dX5_readWord_47 ?_
                refine g_top (y := nI (P + (mlN (X.1 12) L P 6))) (nI_add P (mlN (X.1 12) L P 6)) ?_
                refine gSc_positionP C hW_179 hS_180 (hwc hwX5) (mc qw_233) dX5_readWord_48 (fun H_297 locs_298 hW_299 hS_300 => ?_)
                obtain ⟨w_301, ew_301⟩ : ∃ Z9, Z9 = upd (X.1 11) (6) (nI (P + (mlN (X.1 12) L P 6))) := ⟨_, rfl⟩
                have kn_302 : w_301 (5) = nI L := by rw [ew_301]; exact (pk_un (by omega)).trans eL
                have kn_303 : w_301 (6) = nI (P + (mlN (X.1 12) L P 6)) := by rw [ew_301]; exact pk_us
                have hW_304 : Wd G (setRow X 11 w_301) H_297 := Wd.cast (by rw [ew_301]; exact st_base) hW_299
                refine lv_aload_n hx hb dX5_readWord_51 rfl (lv_at hl_173 1 rfl) ?_
                exact g_eret C hr hlk hW_304 hS_300 dX5_readWord_52 (r := some 6) (by subst ew_301; exact ⟨by simp only [wordR, wdF, Nat.reduceAdd, b_26, b_52, b_78, b_104, b_130, b_156, b_182, if_true, if_false]; first | done | rfl, by simp only [wordR, wdF, Nat.reduceAdd, b_26, b_52, b_78, b_104, b_130, b_156, b_182, if_true, if_false]; first | done | rfl⟩)
            · have fb_156 : mlN (X.1 12) L P 5 = strL.getD 5 0 := (nI_eq (a := mlN (X.1 12) L P 5) (b := strL.getD 5 0) (by omega) (by omega)).mp b_156
              refine lv_aload_n hx hb dX5_readWord_40 rfl (lv_at hl_147 4 rfl) ?_
              refine lv_dup hx hb dX5_readWord_41 rfl ?_
              refine gSc_position C hW_153 (hwc hwX5) (mc qw_233) dX5_readWord_42 ?_
              refine g_top (y := nI P) eP ?_
              refine lv_iload hx hb dX5_readWord_45 (lv_at hl_147 0 rfl) ?_
              refine lv_iadd hx hb dX5_readWord_47 ?_
              refine g_top (y := nI (P + (mlN (X.1 12) L P 5))) (nI_add P (mlN (X.1 12) L P 5)) ?_
              refine gSc_positionP C hW_153 hS_154 (hwc hwX5) (mc qw_233) dX5_readWord_48 (fun H_305 locs_306 hW_307 hS_308 => ?_)
              obtain ⟨w_309, ew_309⟩ : ∃ Z9, Z9 = upd (X.1 11) (6) (nI (P + (mlN (X.1 12) L P 5))) := ⟨_, rfl⟩
              have kn_310 : w_309 (5) = nI L := by rw [ew_309]; exact (pk_un (by omega)).trans eL
              have kn_311 : w_309 (6) = nI (P + (mlN (X.1 12) L P 5)) := by rw [ew_309]; exact pk_us
              have hW_312 : Wd G (setRow X 11 w_309) H_305 := Wd.cast (by rw [ew_309]; exact st_base) hW_307
              refine lv_aload_n hx hb dX5_readWord_51 rfl (lv_at hl_147 1 rfl) ?_
              exact g_eret C hr hlk hW_312 hS_308 dX5_readWord_52 (r := some 5) (by subst ew_309; exact ⟨by simp only [wordR, wdF, Nat.reduceAdd, b_26, b_52, b_78, b_104, b_130, b_156, if_true, if_false]; first | done | rfl, by simp only [wordR, wdF, Nat.reduceAdd, b_26, b_52, b_78, b_104, b_130, b_156, if_true, if_false]; first | done | rfl⟩)
          · have fb_130 : mlN (X.1 12) L P 4 = strL.getD 4 0 := (nI_eq (a := mlN (X.1 12) L P 4) (b := strL.getD 4 0) (by omega) (by omega)).mp b_130
            refine lv_aload_n hx hb dX5_readWord_40 rfl (lv_at hl_121 4 rfl) ?_
            refine lv_dup hx hb dX5_readWord_41 rfl ?_
            refine gSc_position C hW_127 (hwc hwX5) (mc qw_233) dX5_readWord_42 ?_
            refine g_top (y := nI P) eP ?_
            refine lv_iload hx hb dX5_readWord_45 (lv_at hl_121 0 rfl) ?_
            refine lv_iadd hx hb dX5_readWord_47 ?_
            refine g_top (y := nI (P + (mlN (X.1 12) L P 4))) (nI_add P (mlN (X.1 12) L P 4)) ?_
            refine gSc_positionP C hW_127 hS_128 (hwc hwX5) (mc qw_233) dX5_readWord_48 (fun H_313 locs_314 hW_315 hS_316 => ?_)
            obtain ⟨w_317, ew_317⟩ : ∃ Z9, Z9 = upd (X.1 11) (6) (nI (P + (mlN (X.1 12) L P 4))) := ⟨_, rfl⟩
            have kn_318 : w_317 (5) = nI L := by rw [ew_317]; exact (pk_un (by omega)).trans eL
            have kn_319 : w_317 (6) = nI (P + (mlN (X.1 12) L P 4)) := by rw [ew_317]; exact pk_us
            have hW_320 : Wd G (setRow X 11 w_317) H_313 := Wd.cast (by rw [ew_317]; exact st_base) hW_315
            refine lv_aload_n hx hb dX5_readWord_51 rfl (lv_at hl_121 1 rfl) ?_
            exact g_eret C hr hlk hW_320 hS_316 dX5_readWord_52 (r := some 4) (by subst ew_317; exact ⟨by simp only [wordR, wdF, Nat.reduceAdd, b_26, b_52, b_78, b_104, b_130, if_true, if_false]; first | done | rfl, by simp only [wordR, wdF, Nat.reduceAdd, b_26, b_52, b_78, b_104, b_130, if_true, if_false]; first | done | rfl⟩)
        · have fb_104 : mlN (X.1 12) L P 3 = strL.getD 3 0 := (nI_eq (a := mlN (X.1 12) L P 3) (b := strL.getD 3 0) (by omega) (by omega)).mp b_104
          refine lv_aload_n hx hb dX5_readWord_40 rfl (lv_at hl_95 4 rfl) ?_
          refine lv_dup hx hb dX5_readWord_41 rfl ?_
          refine gSc_position C hW_101 (hwc hwX5) (mc qw_233) dX5_readWord_42 ?_
          refine g_top (y := nI P) eP ?_
          refine lv_iload hx hb dX5_readWord_45 (lv_at hl_95 0 rfl) ?_
          refine lv_iadd hx hb dX5_readWord_47 ?_
          refine g_top (y := nI (P + (mlN (X.1 12) L P 3))) (nI_add P (mlN (X.1 12) L P 3)) ?_
          refine gSc_positionP C hW_101 hS_102 (hwc hwX5) (mc qw_233) dX5_readWord_48 (fun H_321 locs_322 hW_323 hS_324 => ?_)
          obtain ⟨w_325, ew_325⟩ : ∃ Z9, Z9 = upd (X.1 11) (6) (nI (P + (mlN (X.1 12) L P 3))) := ⟨_, rfl⟩
          have kn_326 : w_325 (5) = nI L := by rw [ew_325]; exact (pk_un (by omega)).trans eL
          have kn_327 : w_325 (6) = nI (P + (mlN (X.1 12) L P 3)) := by rw [ew_325]; exact pk_us
          have hW_328 : Wd G (setRow X 11 w_325) H_321 := Wd.cast (by rw [ew_325]; exact st_base) hW_323
          refine lv_aload_n hx hb dX5_readWord_51 rfl (lv_at hl_95 1 rfl) ?_
          exact g_eret C hr hlk hW_328 hS_324 dX5_readWord_52 (r := some 3) (by subst ew_325; exact ⟨by simp only [wordR, wdF, Nat.reduceAdd, b_26, b_52, b_78, b_104, if_true, if_false]; first | done | rfl, by simp only [wordR, wdF, Nat.reduceAdd, b_26, b_52, b_78, b_104, if_true, if_false]; first | done | rfl⟩)
      · have fb_78 : mlN (X.1 12) L P 2 = strL.getD 2 0 := (nI_eq (a := mlN (X.1 12) L P 2) (b := strL.getD 2 0) (by omega) (by omega)).mp b_78
        refine lv_aload_n hx hb dX5_readWord_40 rfl (lv_at hl_69 4 rfl) ?_
        refine lv_dup hx hb dX5_readWord_41 rfl ?_
        refine gSc_position C hW_75 (hwc hwX5) (mc qw_233) dX5_readWord_42 ?_
        refine g_top (y := nI P) eP ?_
        refine lv_iload hx hb dX5_readWord_45 (lv_at hl_69 0 rfl) ?_
        refine lv_iadd hx hb dX5_readWord_47 ?_
        refine g_top (y := nI (P + (mlN (X.1 12) L P 2))) (nI_add P (mlN (X.1 12) L P 2)) ?_
        refine gSc_positionP C hW_75 hS_76 (hwc hwX5) (mc qw_233) dX5_readWord_48 (fun H_329 locs_330 hW_331 hS_332 => ?_)
        obtain ⟨w_333, ew_333⟩ : ∃ Z9, Z9 = upd (X.1 11) (6) (nI (P + (mlN (X.1 12) L P 2))) := ⟨_, rfl⟩
        have kn_334 : w_333 (5) = nI L := by rw [ew_333]; exact (pk_un (by omega)).trans eL
        have kn_335 : w_333 (6) = nI (P + (mlN (X.1 12) L P 2)) := by rw [ew_333]; exact pk_us
        have hW_336 : Wd G (setRow X 11 w_333) H_329 := Wd.cast (by rw [ew_333]; exact st_base) hW_331
        refine lv_aload_n hx hb dX5_readWord_51 rfl (lv_at hl_69 1 rfl) ?_
        exact g_eret C hr hlk hW_336 hS_332 dX5_readWord_52 (r := some 2) (by subst ew_333; exact ⟨by simp only [wordR, wdF, Nat.reduceAdd, b_26, b_52, b_78, if_true, if_false]; first | done | rfl, by simp only [wordR, wdF, Nat.reduceAdd, b_26, b_52, b_78, if_true, if_false]; first | done | rfl⟩)
    · have fb_52 : mlN (X.1 12) L P 1 = strL.getD 1 0 := (nI_eq (a := mlN (X.1 12) L P 1) (b := strL.getD 1 0) (by omega) (by omega)).mp b_52
      refine lv_aload_n hx hb dX5_readWord_40 rfl (lv_at hl_43 4 rfl) ?_
      refine lv_dup hx hb dX5_readWord_41 rfl ?_
      refine gSc_position C hW_49 (hwc hwX5) (mc qw_233) dX5_readWord_42 ?_
      refine g_top (y := nI P) eP ?_
      refine lv_iload hx hb dX5_readWord_45 (lv_at hl_43 0 rfl) ?_
      refine lv_iadd hx hb dX5_readWord_47 ?_
      refine g_top (y := nI (P + (mlN (X.1 12) L P 1))) (nI_add P (mlN (X.1 12) L P 1)) ?_
      refine gSc_positionP C hW_49 hS_50 (hwc hwX5) (mc qw_233) dX5_readWord_48 (fun H_337 locs_338 hW_339 hS_340 => ?_)
      obtain ⟨w_341, ew_341⟩ : ∃ Z9, Z9 = upd (X.1 11) (6) (nI (P + (mlN (X.1 12) L P 1))) := ⟨_, rfl⟩
      have kn_342 : w_341 (5) = nI L := by rw [ew_341]; exact (pk_un (by omega)).trans eL
      have kn_343 : w_341 (6) = nI (P + (mlN (X.1 12) L P 1)) := by rw [ew_341]; exact pk_us
      have hW_344 : Wd G (setRow X 11 w_341) H_337 := Wd.cast (by rw [ew_341]; exact st_base) hW_339
      refine lv_aload_n hx hb dX5_readWord_51 rfl (lv_at hl_43 1 rfl) ?_
      exact g_eret C hr hlk hW_344 hS_340 dX5_readWord_52 (r := some 1) (by subst ew_341; exact ⟨by simp only [wordR, wdF, Nat.reduceAdd, b_26, b_52, if_true, if_false]; first | done | rfl, by simp only [wordR, wdF, Nat.reduceAdd, b_26, b_52, if_true, if_false]; first | done | rfl⟩)
  · have fb_26 : mlN (X.1 12) L P 0 = strL.getD 0 0 := (nI_eq (a := mlN (X.1 12) L P 0) (b := strL.getD 0 0) (by omega) (by omega)).mp b_26
    refine lv_aload_n hx hb dX5_readWord_40 rfl (lv_at hl_17 4 rfl) ?_
    refine lv_dup hx hb dX5_readWord_41 rfl ?_
    refine gSc_position C hW_23 (hwc hwX5) (mc qw_233) dX5_readWord_42 ?_
    refine g_top (y := nI P) eP ?_
    refine lv_iload hx hb dX5_readWord_45 (lv_at hl_17 0 rfl) ?_
    refine lv_iadd hx hb dX5_readWord_47 ?_
    refine g_top (y := nI (P + (mlN (X.1 12) L P 0))) (nI_add P (mlN (X.1 12) L P 0)) ?_
    refine gSc_positionP C hW_23 hS_24 (hwc hwX5) (mc qw_233) dX5_readWord_48 (fun H_345 locs_346 hW_347 hS_348 => ?_)
    obtain ⟨w_349, ew_349⟩ : ∃ Z9, Z9 = upd (X.1 11) (6) (nI (P + (mlN (X.1 12) L P 0))) := ⟨_, rfl⟩
    have kn_350 : w_349 (5) = nI L := by rw [ew_349]; exact (pk_un (by omega)).trans eL
    have kn_351 : w_349 (6) = nI (P + (mlN (X.1 12) L P 0)) := by rw [ew_349]; exact pk_us
    have hW_352 : Wd G (setRow X 11 w_349) H_345 := Wd.cast (by rw [ew_349]; exact st_base) hW_347
    refine lv_aload_n hx hb dX5_readWord_51 rfl (lv_at hl_17 1 rfl) ?_
    exact g_eret C hr hlk hW_352 hS_348 dX5_readWord_52 (r := some 0) (by subst ew_349; exact ⟨by simp only [wordR, wdF, Nat.reduceAdd, b_26, if_true, if_false]; first | done | rfl, by simp only [wordR, wdF, Nat.reduceAdd, b_26, if_true, if_false]; first | done | rfl⟩)

set_option maxHeartbeats 4000000 in
set_option maxRecDepth 100000 in
theorem cX5_readArguments10_ok (l : Launch) (G : GT) (X : St) (L P : Nat) (hL : L ≤ 60) (hP : P ≤ L) (eL : X.1 11 5 = nI L) (eP : X.1 11 6 = nI P) (k : Nat) (hk : k < 60) : MetI l G yX5_readArguments (wsG yX5_readArguments cX5_readArguments 7 (some .boolean)) (rmz 4 85) [.ref (ad G 718), .ref (cy G (50 + 10)), .ref (ad G (738 + k))] X (fun res Y => res = (rdP (X.1 12) L k [100, 32, 109, 110] 0 P (X.1 14)).1 ∧ Y = setRow (setRow X 11 (upd (X.1 11) (6) (nI (rdP (X.1 12) L k [100, 32, 109, 110] 0 P (X.1 14)).2.1))) 14 (rdP (X.1 12) L k [100, 32, 109, 110] 0 P (X.1 14)).2.2) := by
  refine g_met (cc := cX5_readArguments) (maxL := 7) (ret := (some .boolean)) (by decide) rfl (Nat.le_of_ble_eq_true rfl) ?_
  intro p e s m below meth c ls C hr hlk hnm hW hl
  have hx := C.1.1
  have hb := C.1.2.1
  have hS : va_S (Ab G) s.heap s.heap [] := va_S.rf
  have hl : lv_has ls 7 [(0, .ref (ad G 718)), (1, .ref (cy G (50 + 10))), (2, .ref (ad G (738 + k)))] := hl
  have hW : Wd G (setRow (setRow X 11 (X.1 11)) 14 (X.1 14)) s.heap := Wd.cast (((sr_same (X := setRow X 11 (X.1 11)) rfl).trans (sr_same (X := X) rfl)).symm) hW
  refine lv_iconst (v := 0) hx hb dX5_readArguments_0 (by decide) ?_
  refine lv_istore_n (lv' := [(3, .int 0), (0, .ref (ad G 718)), (1, .ref (cy G (50 + 10))), (2, .ref (ad G (738 + k)))]) hx hb dX5_readArguments_1 rfl hl (by decide) rfl (fun ls_1 hl_2 => ?_)
  refine lv_iconst (v := 0) hx hb dX5_readArguments_2 (by decide) ?_
  refine lv_istore (lv' := [(4, .int 0), (3, .int 0), (0, .ref (ad G 718)), (1, .ref (cy G (50 + 10))), (2, .ref (ad G (738 + k)))]) hx hb dX5_readArguments_3 hl_2 (by decide) rfl (fun ls_3 hl_4 => ?_)
  refine lv_iload hx hb dX5_readArguments_5 (lv_at hl_4 0 rfl) ?_
  refine lv_aload_n hx hb dX5_readArguments_7 rfl (lv_at hl_4 3 rfl) ?_
  refine g_calli (va_runV (As := []) (rest := [.int 0]) C.1 (cJ0_length_8abf5_ok l G (setRow (setRow X 11 (X.1 11)) 14 (X.1 14)) 10 (by decide)) (cwV 0 C.1.2.2.2.2 (gV qw_1373 qw_482 qw_483 qw_79 qw_484) rfl rfl rfl (by decide +kernel) ⟨Nat.le_of_ble_eq_true rfl, Nat.le_of_ble_eq_true rfl⟩) (g_rStr C hW hS (by decide) []) rfl rfl hl_4.1 rfl (lv_room (Nat.le_of_ble_eq_true rfl)) dX5_readArguments_8 ⟨Nat.zero_le _, Nat.zero_le _⟩) hS (fun r_7 Y_6 H_8 locs_9 hW_10 hS_11 h_5 => ?_)
  obtain ⟨h_5, hy_12⟩ := h_5
  replace hy_12 := hy_12.symm
  subst hy_12
  subst h_5
  refine g_top (y := 4) (by decide) ?_
  refine lv_icmp_ge (tgt := 76) hx hb dX5_readArguments_11 (by decide) (fun h9 => absurd h9 (by decide)) (fun _ => ?_)
  refine lv_aload_n hx hb dX5_readArguments_14 rfl (lv_at hl_4 3 rfl) ?_
  refine lv_iload hx hb dX5_readArguments_15 (lv_at hl_4 0 rfl) ?_
  refine g_calli (va_runV (As := [.int 0]) (rest := []) C.1 (cJ0_charAt_5068e_ok l G (setRow (setRow X 11 (X.1 11)) 14 (X.1 14)) 10 (by decide) 0 (by decide)) (cwV 1 C.1.2.2.2.2 (gV qw_1374 qw_1375 qw_1376 qw_79 qw_1377) rfl rfl rfl (by decide +kernel) ⟨Nat.le_of_ble_eq_true rfl, Nat.le_of_ble_eq_true rfl⟩) (g_rStr C hW_10 hS_11 (by decide) [.int 0]) rfl rfl hl_4.1 rfl (lv_room (Nat.le_of_ble_eq_true rfl)) dX5_readArguments_17 ⟨Nat.zero_le _, Nat.zero_le _⟩) hS_11 (fun r_15 Y_14 H_16 locs_17 hW_18 hS_19 h_13 => ?_)
  obtain ⟨h_13, hy_20⟩ := h_13
  replace hy_20 := hy_20.symm
  subst hy_20
  subst h_13
  refine g_top (y := 100) (by decide) ?_
  refine lv_istore (lv' := [(5, .int 100), (4, .int 0), (3, .int 0), (0, .ref (ad G 718)), (1, .ref (cy G (50 + 10))), (2, .ref (ad G (738 + k)))]) hx hb dX5_readArguments_20 hl_4 (by decide) rfl (fun ls_21 hl_22 => ?_)
  refine lv_iload hx hb dX5_readArguments_22 (lv_at hl_22 0 rfl) ?_
  refine lv_bipush (v := 32) hx hb dX5_readArguments_24 (by decide) ?_
  refine lv_icmp_ne (tgt := 40) hx hb dX5_readArguments_26 (by decide) (fun _ => ?_) (fun h9 => absurd h9 (by decide))
  refine lv_aload_n hx hb dX5_readArguments_40 rfl (lv_at hl_22 3 rfl) ?_
  refine lv_iload hx hb dX5_readArguments_41 (lv_at hl_22 0 rfl) ?_
  refine g_calli (va_runV (As := [.int 100]) (rest := []) C.1 (cX5_readValue100_ok l G (setRow (setRow X 11 (X.1 11)) 14 (X.1 14)) L P hL (by omega) ((congrFun (rd_in (by decide) rd_out) _).trans eL) ((congrFun (rd_in (by decide) rd_out) _).trans eP)) (cwV 1 C.1.2.2.2.2 (gV qw_1398 qw_1400 qw_24 qw_76 qw_1401) rfl rfl rfl (by decide +kernel) ⟨Nat.le_of_ble_eq_true rfl, Nat.le_of_ble_eq_true rfl⟩) (g_rScript C hW_18 hS_19 [.int 100]) rfl rfl hl_22.1 rfl (lv_room (Nat.le_of_ble_eq_true rfl)) dX5_readArguments_43 ⟨Nat.zero_le _, Nat.zero_le _⟩) hS_19 (fun r_24 Y_25 H_26 locs_27 hW_28 hS_29 h_23 => ?_)
  obtain ⟨h_30, h_23⟩ := h_23
  replace h_30 : r_24 = (rvV (X.1 12) L 100 P).2 := h_30
  replace h_23 : Y_25 = setRow (setRow (setRow X 11 (X.1 11)) 14 (X.1 14)) 11 (upd ((setRow (setRow X 11 (X.1 11)) 14 (X.1 14)).1 11) (6) (nI ((rvV (X.1 12) L 100 P).1))) := h_23
  obtain ⟨p_31, ep_31⟩ : ∃ Z9 : Nat, Z9 = (rvV (X.1 12) L 100 P).1 := ⟨_, rfl⟩
  rw [← ep_31] at h_23
  have bp_31 : P ≤ p_31 ∧ p_31 ≤ L := by rw [ep_31]; exact rvV_le (by omega) (by omega)
  subst h_30
  obtain ⟨w_32, ew_32⟩ : ∃ Z9, Z9 = upd (X.1 11) (6) (nI p_31) := ⟨_, rfl⟩
  have kn_33 : w_32 (5) = nI L := by rw [ew_32]; exact (kp_upd (by omega)).trans eL
  have hW_34 : Wd G (setRow (setRow X 11 w_32) 14 (X.1 14)) H_26 := Wd.cast (by rw [h_23, ew_32]; exact ((congrArg (fun Z9 => setRow (setRow (setRow X 11 (X.1 11)) 14 (X.1 14)) 11 (upd Z9 (6) (nI p_31))) (rd_in (by decide) rd_out)).trans (sr_in (by decide) sr_out))) hW_28
  have kn_35 : w_32 (6) = nI p_31 := by rw [ew_32]; exact pk_us
  refine lv_topi (fun v_36 ev_36 => ?_)
  refine lv_istore (lv' := [(6, .int v_36), (5, .int 100), (4, .int 0), (3, .int 0), (0, .ref (ad G 718)), (1, .ref (cy G (50 + 10))), (2, .ref (ad G (738 + k)))]) hx hb dX5_readArguments_46 hl_22 (by decide) rfl (fun ls_37 hl_38 => ?_)
  refine lv_iload hx hb dX5_readArguments_48 (lv_at hl_38 0 rfl) ?_
  refine lv_iconst (v := (-1)) hx hb dX5_readArguments_50 (by decide) ?_
  refine lv_icmp_eq (tgt := 60) hx hb dX5_readArguments_51 (by decide) (fun b_39 => ?_) (fun b_39 => ?_)
  · refine lv_iconst (v := 0) hx hb dX5_readArguments_60 (by decide) ?_
    exact g_zret C hr hlk hW_34 hS_29 dX5_readArguments_61 rfl (by subst ev_36; subst ew_32; subst ep_31; exact ⟨by simp only [rdP, Nat.reduceAdd, c32a, c32b, c32c, uu6, b_39, if_true, if_false]; first | done | rfl, by simp only [rdP, Nat.reduceAdd, c32a, c32b, c32c, uu6, b_39, if_true, if_false]; first | done | rfl⟩)
  · refine lv_iload_n hx hb dX5_readArguments_54 rfl (lv_at hl_38 3 rfl) ?_
    refine lv_aload_n hx hb dX5_readArguments_55 rfl (lv_at hl_38 6 rfl) ?_
    refine g_arglen C hW_34 hk dX5_readArguments_56 ?_
    refine lv_icmp_lt (tgt := 62) hx hb dX5_readArguments_57 (by decide) (fun _ => ?_) (fun h9 => absurd h9 (by decide))
    refine lv_aload_n hx hb dX5_readArguments_62 rfl (lv_at hl_38 6 rfl) ?_
    refine lv_iload_n hx hb dX5_readArguments_63 rfl (lv_at hl_38 3 rfl) ?_
    refine lv_iload hx hb dX5_readArguments_64 (lv_at hl_38 0 rfl) ?_
    refine g_argst C hW_34 hS_29 hk 0 (by decide) (vlit (by decide)) dX5_readArguments_66 (fun H_40 locs_41 hW_42 hS_43 => ?_)
    obtain ⟨w_44, ew_44⟩ : ∃ Z9, Z9 = upd (X.1 14) (3 * k + 0) v_36 := ⟨_, rfl⟩
    have hW_45 : Wd G (setRow (setRow X 11 w_32) 14 w_44) H_40 := Wd.cast (by rw [ew_44]; exact st_out) hW_42
    refine lv_iinc (v := 1) (lv' := [(3, .int 1), (6, .int v_36), (5, .int 100), (4, .int 0), (0, .ref (ad G 718)), (1, .ref (cy G (50 + 10))), (2, .ref (ad G (738 + k)))]) hx hb dX5_readArguments_67 hl_38 (k := 3) rfl (by decide) (by decide) rfl (fun ls_46 hl_47 => ?_)
    refine lv_iinc (v := 1) (lv' := [(4, .int 1), (3, .int 1), (6, .int v_36), (5, .int 100), (0, .ref (ad G 718)), (1, .ref (cy G (50 + 10))), (2, .ref (ad G (738 + k)))]) hx hb dX5_readArguments_70 hl_47 (k := 3) rfl (by decide) (by decide) rfl (fun ls_48 hl_49 => ?_)
    refine lv_goto (tgt := 5) hx hb dX5_readArguments_73 (by decide) ?_
    refine lv_iload hx hb dX5_readArguments_5 (lv_at hl_49 0 rfl) ?_
    refine lv_aload_n hx hb dX5_readArguments_7 rfl (lv_at hl_49 5 rfl) ?_
    refine g_calli (va_runV (As := []) (rest := [.int 1]) C.1 (cJ0_length_8abf5_ok l G (setRow (setRow X 11 w_32) 14 w_44) 10 (by decide)) (cwV 0 C.1.2.2.2.2 (gV qw_1373 qw_482 qw_483 qw_79 qw_484) rfl rfl rfl (by decide +kernel) ⟨Nat.le_of_ble_eq_true rfl, Nat.le_of_ble_eq_true rfl⟩) (g_rStr C hW_45 hS_43 (by decide) []) rfl rfl hl_49.1 rfl (lv_room (Nat.le_of_ble_eq_true rfl)) dX5_readArguments_8 ⟨Nat.zero_le _, Nat.zero_le _⟩) hS_43 (fun r_52 Y_51 H_53 locs_54 hW_55 hS_56 h_50 => ?_)
    obtain ⟨h_50, hy_57⟩ := h_50
    replace hy_57 := hy_57.symm
    subst hy_57
    subst h_50
    refine g_top (y := 4) (by decide) ?_
    refine lv_icmp_ge (tgt := 76) hx hb dX5_readArguments_11 (by decide) (fun h9 => absurd h9 (by decide)) (fun _ => ?_)
    refine lv_aload_n hx hb dX5_readArguments_14 rfl (lv_at hl_49 5 rfl) ?_
    refine lv_iload hx hb dX5_readArguments_15 (lv_at hl_49 0 rfl) ?_
    refine g_calli (va_runV (As := [.int 1]) (rest := []) C.1 (cJ0_charAt_5068e_ok l G (setRow (setRow X 11 w_32) 14 w_44) 10 (by decide) 1 (by decide)) (cwV 1 C.1.2.2.2.2 (gV qw_1374 qw_1375 qw_1376 qw_79 qw_1377) rfl rfl rfl (by decide +kernel) ⟨Nat.le_of_ble_eq_true rfl, Nat.le_of_ble_eq_true rfl⟩) (g_rStr C hW_55 hS_56 (by decide) [.int 1]) rfl rfl hl_49.1 rfl (lv_room (Nat.le_of_ble_eq_true rfl)) dX5_readArguments_17 ⟨Nat.zero_le _, Nat.zero_le _⟩) hS_56 (fun r_60 Y_59 H_61 locs_62 hW_63 hS_64 h_58 => ?_)
    obtain ⟨h_58, hy_65⟩ := h_58
    replace hy_65 := hy_65.symm
    subst hy_65
    subst h_58
    refine g_top (y := 32) (by decide) ?_
    refine lv_istore (lv' := [(5, .int 32), (4, .int 1), (3, .int 1), (6, .int v_36), (0, .ref (ad G 718)), (1, .ref (cy G (50 + 10))), (2, .ref (ad G (738 + k)))]) hx hb dX5_readArguments_20 hl_49 (by decide) rfl (fun ls_66 hl_67 => ?_)
    refine lv_iload hx hb dX5_readArguments_22 (lv_at hl_67 0 rfl) ?_
    refine lv_bipush (v := 32) hx hb dX5_readArguments_24 (by decide) ?_
    refine lv_icmp_ne (tgt := 40) hx hb dX5_readArguments_26 (by decide) (fun h9 => absurd h9 (by decide)) (fun _ => ?_)
    refine lv_aload_n hx hb dX5_readArguments_29 rfl (lv_at hl_67 4 rfl) ?_
    refine lv_bipush (v := 32) hx hb dX5_readArguments_30 (by decide) ?_
    refine g_calli (va_runV (As := [.int 32]) (rest := []) C.1 (cX5_readSign_ok l G (setRow (setRow X 11 w_32) 14 w_44) L p_31 hL (by omega) ((congrFun (rd_in (by decide) rd_out) _).trans kn_33) ((congrFun (rd_in (by decide) rd_out) _).trans kn_35) 32) (cwV 1 C.1.2.2.2.2 (gV qw_1394 qw_1396 qw_23 qw_76 qw_1397) rfl rfl rfl (by decide +kernel) ⟨Nat.le_of_ble_eq_true rfl, Nat.le_of_ble_eq_true rfl⟩) (g_rScript C hW_63 hS_64 [.int 32]) rfl rfl hl_67.1 rfl (lv_room (Nat.le_of_ble_eq_true rfl)) dX5_readArguments_32 ⟨Nat.zero_le _, Nat.zero_le _⟩) hS_64 (fun r_69 Y_70 H_71 locs_72 hW_73 hS_74 h_68 => ?_)
    obtain ⟨h_75, h_68⟩ := h_68
    replace h_75 : r_69 = (rsV (X.1 12) L p_31 32).2 := h_75
    replace h_68 : Y_70 = setRow (setRow (setRow X 11 w_32) 14 w_44) 11 (upd ((setRow (setRow X 11 w_32) 14 w_44).1 11) (6) (nI ((rsV (X.1 12) L p_31 32).1))) := h_68
    obtain ⟨p_76, ep_76⟩ : ∃ Z9 : Nat, Z9 = (rsV (X.1 12) L p_31 32).1 := ⟨_, rfl⟩
    rw [← ep_76] at h_68
    have bp_76 : p_31 ≤ p_76 ∧ p_76 ≤ L := by rw [ep_76]; exact rsV_le (by omega) (by omega)
    subst h_75
    obtain ⟨w_77, ew_77⟩ : ∃ Z9, Z9 = upd w_32 (6) (nI p_76) := ⟨_, rfl⟩
    have kn_78 : w_77 (5) = nI L := by rw [ew_77]; exact (kp_upd (by omega)).trans kn_33
    have hW_79 : Wd G (setRow (setRow X 11 w_77) 14 w_44) H_71 := Wd.cast (by rw [h_68, ew_77]; exact ((congrArg (fun Z9 => setRow (setRow (setRow X 11 w_32) 14 w_44) 11 (upd Z9 (6) (nI p_76))) (rd_in (by decide) rd_out)).trans (sr_in (by decide) sr_out))) hW_73
    have kn_80 : w_77 (6) = nI p_76 := by rw [ew_77]; exact pk_us
    refine lv_if_ne (tgt := 70) hx hb dX5_readArguments_35 (by decide) (fun b_81 => ?_) (fun b_81 => ?_)
    · refine lv_iinc (v := 2) (lv' := [(4, .int 2), (5, .int 32), (3, .int 1), (6, .int v_36), (0, .ref (ad G 718)), (1, .ref (cy G (50 + 10))), (2, .ref (ad G (738 + k)))]) hx hb dX5_readArguments_70 hl_67 (k := 1) rfl (by decide) (by decide) rfl (fun ls_82 hl_83 => ?_)
      refine lv_goto (tgt := 5) hx hb dX5_readArguments_73 (by decide) ?_
      refine lv_iload hx hb dX5_readArguments_5 (lv_at hl_83 0 rfl) ?_
      refine lv_aload_n hx hb dX5_readArguments_7 rfl (lv_at hl_83 5 rfl) ?_
      refine g_calli (va_runV (As := []) (rest := [.int 2]) C.1 (cJ0_length_8abf5_ok l G (setRow (setRow X 11 w_77) 14 w_44) 10 (by decide)) (cwV 0 C.1.2.2.2.2 (gV qw_1373 qw_482 qw_483 qw_79 qw_484) rfl rfl rfl (by decide +kernel) ⟨Nat.le_of_ble_eq_true rfl, Nat.le_of_ble_eq_true rfl⟩) (g_rStr C hW_79 hS_74 (by decide) []) rfl rfl hl_83.1 rfl (lv_room (Nat.le_of_ble_eq_true rfl)) dX5_readArguments_8 ⟨Nat.zero_le _, Nat.zero_le _⟩) hS_74 (fun r_86 Y_85 H_87 locs_88 hW_89 hS_90 h_84 => ?_)
      obtain ⟨h_84, hy_91⟩ := h_84
      replace hy_91 := hy_91.symm
      subst hy_91
      subst h_84
      refine g_top (y := 4) (by decide) ?_
      refine lv_icmp_ge (tgt := 76) hx hb dX5_readArguments_11 (by decide) (fun h9 => absurd h9 (by decide)) (fun _ => ?_)
      refine lv_aload_n hx hb dX5_readArguments_14 rfl (lv_at hl_83 5 rfl) ?_
      refine lv_iload hx hb dX5_readArguments_15 (lv_at hl_83 0 rfl) ?_
      refine g_calli (va_runV (As := [.int 2]) (rest := []) C.1 (cJ0_charAt_5068e_ok l G (setRow (setRow X 11 w_77) 14 w_44) 10 (by decide) 2 (by decide)) (cwV 1 C.1.2.2.2.2 (gV qw_1374 qw_1375 qw_1376 qw_79 qw_1377) rfl rfl rfl (by decide +kernel) ⟨Nat.le_of_ble_eq_true rfl, Nat.le_of_ble_eq_true rfl⟩) (g_rStr C hW_89 hS_90 (by decide) [.int 2]) rfl rfl hl_83.1 rfl (lv_room (Nat.le_of_ble_eq_true rfl)) dX5_readArguments_17 ⟨Nat.zero_le _, Nat.zero_le _⟩) hS_90 (fun r_94 Y_93 H_95 locs_96 hW_97 hS_98 h_92 => ?_)
      obtain ⟨h_92, hy_99⟩ := h_92
      replace hy_99 := hy_99.symm
      subst hy_99
      subst h_92
      refine g_top (y := 109) (by decide) ?_
      refine lv_istore (lv' := [(5, .int 109), (4, .int 2), (3, .int 1), (6, .int v_36), (0, .ref (ad G 718)), (1, .ref (cy G (50 + 10))), (2, .ref (ad G (738 + k)))]) hx hb dX5_readArguments_20 hl_83 (by decide) rfl (fun ls_100 hl_101 => ?_)
      refine lv_iload hx hb dX5_readArguments_22 (lv_at hl_101 0 rfl) ?_
      refine lv_bipush (v := 32) hx hb dX5_readArguments_24 (by decide) ?_
      refine lv_icmp_ne (tgt := 40) hx hb dX5_readArguments_26 (by decide) (fun _ => ?_) (fun h9 => absurd h9 (by decide))
      refine lv_aload_n hx hb dX5_readArguments_40 rfl (lv_at hl_101 4 rfl) ?_
      refine lv_iload hx hb dX5_readArguments_41 (lv_at hl_101 0 rfl) ?_
      refine g_calli (va_runV (As := [.int 109]) (rest := []) C.1 (cX5_readValue109_ok l G (setRow (setRow X 11 w_77) 14 w_44) L p_76 hL (by omega) ((congrFun (rd_in (by decide) rd_out) _).trans kn_78) ((congrFun (rd_in (by decide) rd_out) _).trans kn_80)) (cwV 1 C.1.2.2.2.2 (gV qw_1398 qw_1400 qw_24 qw_76 qw_1401) rfl rfl rfl (by decide +kernel) ⟨Nat.le_of_ble_eq_true rfl, Nat.le_of_ble_eq_true rfl⟩) (g_rScript C hW_97 hS_98 [.int 109]) rfl rfl hl_101.1 rfl (lv_room (Nat.le_of_ble_eq_true rfl)) dX5_readArguments_43 ⟨Nat.zero_le _, Nat.zero_le _⟩) hS_98 (fun r_103 Y_104 H_105 locs_106 hW_107 hS_108 h_102 => ?_)
      obtain ⟨h_109, h_102⟩ := h_102
      replace h_109 : r_103 = (rvV (X.1 12) L 109 p_76).2 := h_109
      replace h_102 : Y_104 = setRow (setRow (setRow X 11 w_77) 14 w_44) 11 (upd ((setRow (setRow X 11 w_77) 14 w_44).1 11) (6) (nI ((rvV (X.1 12) L 109 p_76).1))) := h_102
      obtain ⟨p_110, ep_110⟩ : ∃ Z9 : Nat, Z9 = (rvV (X.1 12) L 109 p_76).1 := ⟨_, rfl⟩
      rw [← ep_110] at h_102
      have bp_110 : p_76 ≤ p_110 ∧ p_110 ≤ L := by rw [ep_110]; exact rvV_le (by omega) (by omega)
      subst h_109
      obtain ⟨w_111, ew_111⟩ : ∃ Z9, Z9 = upd w_77 (6) (nI p_110) := ⟨_, rfl⟩
      have kn_112 : w_111 (5) = nI L := by rw [ew_111]; exact (kp_upd (by omega)).trans kn_78
      have hW_113 : Wd G (setRow (setRow X 11 w_111) 14 w_44) H_105 := Wd.cast (by rw [h_102, ew_111]; exact ((congrArg (fun Z9 => setRow (setRow (setRow X 11 w_77) 14 w_44) 11 (upd Z9 (6) (nI p_110))) (rd_in (by decide) rd_out)).trans (sr_in (by decide) sr_out))) hW_107
      have kn_114 : w_111 (6) = nI p_110 := by rw [ew_111]; exact pk_us
      refine lv_topi (fun v_115 ev_115 => ?_)
      refine lv_istore (lv' := [(6, .int v_115), (5, .int 109), (4, .int 2), (3, .int 1), (0, .ref (ad G 718)), (1, .ref (cy G (50 + 10))), (2, .ref (ad G (738 + k)))]) hx hb dX5_readArguments_46 hl_101 (by decide) rfl (fun ls_116 hl_117 => ?_)
      refine lv_iload hx hb dX5_readArguments_48 (lv_at hl_117 0 rfl) ?_
      refine lv_iconst (v := (-1)) hx hb dX5_readArguments_50 (by decide) ?_
      refine lv_icmp_eq (tgt := 60) hx hb dX5_readArguments_51 (by decide) (fun b_118 => ?_) (fun b_118 => ?_)
      · refine lv_iconst (v := 0) hx hb dX5_readArguments_60 (by decide) ?_
        exact g_zret C hr hlk hW_113 hS_108 dX5_readArguments_61 rfl (by subst ev_115; subst ew_111; subst ep_110; subst ew_77; subst ep_76; subst ew_44; subst ev_36; subst ew_32; subst ep_31; exact ⟨by simp only [rdP, Nat.reduceAdd, c32a, c32b, c32c, uu6, b_39, b_81, b_118, if_true, if_false]; first | done | rfl, by simp only [rdP, Nat.reduceAdd, c32a, c32b, c32c, uu6, b_39, b_81, b_118, if_true, if_false]; first | done | rfl⟩)
      · refine lv_iload_n hx hb dX5_readArguments_54 rfl (lv_at hl_117 3 rfl) ?_
        refine lv_aload_n hx hb dX5_readArguments_55 rfl (lv_at hl_117 6 rfl) ?_
        refine g_arglen C hW_113 hk dX5_readArguments_56 ?_
        refine lv_icmp_lt (tgt := 62) hx hb dX5_readArguments_57 (by decide) (fun _ => ?_) (fun h9 => absurd h9 (by decide))
        refine lv_aload_n hx hb dX5_readArguments_62 rfl (lv_at hl_117 6 rfl) ?_
        refine lv_iload_n hx hb dX5_readArguments_63 rfl (lv_at hl_117 3 rfl) ?_
        refine lv_iload hx hb dX5_readArguments_64 (lv_at hl_117 0 rfl) ?_
        refine g_argst C hW_113 hS_108 hk 1 (by decide) (vlit (by decide)) dX5_readArguments_66 (fun H_119 locs_120 hW_121 hS_122 => ?_)
        obtain ⟨w_123, ew_123⟩ : ∃ Z9, Z9 = upd w_44 (3 * k + 1) v_115 := ⟨_, rfl⟩
        have hW_124 : Wd G (setRow (setRow X 11 w_111) 14 w_123) H_119 := Wd.cast (by rw [ew_123]; exact st_out) hW_121
        refine lv_iinc (v := 2) (lv' := [(3, .int 2), (6, .int v_115), (5, .int 109), (4, .int 2), (0, .ref (ad G 718)), (1, .ref (cy G (50 + 10))), (2, .ref (ad G (738 + k)))]) hx hb dX5_readArguments_67 hl_117 (k := 3) rfl (by decide) (by decide) rfl (fun ls_125 hl_126 => ?_)
        refine lv_iinc (v := 3) (lv' := [(4, .int 3), (3, .int 2), (6, .int v_115), (5, .int 109), (0, .ref (ad G 718)), (1, .ref (cy G (50 + 10))), (2, .ref (ad G (738 + k)))]) hx hb dX5_readArguments_70 hl_126 (k := 3) rfl (by decide) (by decide) rfl (fun ls_127 hl_128 => ?_)
        refine lv_goto (tgt := 5) hx hb dX5_readArguments_73 (by decide) ?_
        refine lv_iload hx hb dX5_readArguments_5 (lv_at hl_128 0 rfl) ?_
        refine lv_aload_n hx hb dX5_readArguments_7 rfl (lv_at hl_128 5 rfl) ?_
        refine g_calli (va_runV (As := []) (rest := [.int 3]) C.1 (cJ0_length_8abf5_ok l G (setRow (setRow X 11 w_111) 14 w_123) 10 (by decide)) (cwV 0 C.1.2.2.2.2 (gV qw_1373 qw_482 qw_483 qw_79 qw_484) rfl rfl rfl (by decide +kernel) ⟨Nat.le_of_ble_eq_true rfl, Nat.le_of_ble_eq_true rfl⟩) (g_rStr C hW_124 hS_122 (by decide) []) rfl rfl hl_128.1 rfl (lv_room (Nat.le_of_ble_eq_true rfl)) dX5_readArguments_8 ⟨Nat.zero_le _, Nat.zero_le _⟩) hS_122 (fun r_131 Y_130 H_132 locs_133 hW_134 hS_135 h_129 => ?_)
        obtain ⟨h_129, hy_136⟩ := h_129
        replace hy_136 := hy_136.symm
        subst hy_136
        subst h_129
        refine g_top (y := 4) (by decide) ?_
        refine lv_icmp_ge (tgt := 76) hx hb dX5_readArguments_11 (by decide) (fun h9 => absurd h9 (by decide)) (fun _ => ?_)
        refine lv_aload_n hx hb dX5_readArguments_14 rfl (lv_at hl_128 5 rfl) ?_
        refine lv_iload hx hb dX5_readArguments_15 (lv_at hl_128 0 rfl) ?_
        refine g_calli (va_runV (As := [.int 3]) (rest := []) C.1 (cJ0_charAt_5068e_ok l G (setRow (setRow X 11 w_111) 14 w_123) 10 (by decide) 3 (by decide)) (cwV 1 C.1.2.2.2.2 (gV qw_1374 qw_1375 qw_1376 qw_79 qw_1377) rfl rfl rfl (by decide +kernel) ⟨Nat.le_of_ble_eq_true rfl, Nat.le_of_ble_eq_true rfl⟩) (g_rStr C hW_134 hS_135 (by decide) [.int 3]) rfl rfl hl_128.1 rfl (lv_room (Nat.le_of_ble_eq_true rfl)) dX5_readArguments_17 ⟨Nat.zero_le _, Nat.zero_le _⟩) hS_135 (fun r_139 Y_138 H_140 locs_141 hW_142 hS_143 h_137 => ?_)
        obtain ⟨h_137, hy_144⟩ := h_137
        replace hy_144 := hy_144.symm
        subst hy_144
        subst h_137
        refine g_top (y := 110) (by decide) ?_
        refine lv_istore (lv' := [(5, .int 110), (4, .int 3), (3, .int 2), (6, .int v_115), (0, .ref (ad G 718)), (1, .ref (cy G (50 + 10))), (2, .ref (ad G (738 + k)))]) hx hb dX5_readArguments_20 hl_128 (by decide) rfl (fun ls_145 hl_146 => ?_)
        refine lv_iload hx hb dX5_readArguments_22 (lv_at hl_146 0 rfl) ?_
        refine lv_bipush (v := 32) hx hb dX5_readArguments_24 (by decide) ?_
        refine lv_icmp_ne (tgt := 40) hx hb dX5_readArguments_26 (by decide) (fun _ => ?_) (fun h9 => absurd h9 (by decide))
        refine lv_aload_n hx hb dX5_readArguments_40 rfl (lv_at hl_146 4 rfl) ?_
        refine lv_iload hx hb dX5_readArguments_41 (lv_at hl_146 0 rfl) ?_
        refine g_calli (va_runV (As := [.int 110]) (rest := []) C.1 (cX5_readValue110_ok l G (setRow (setRow X 11 w_111) 14 w_123) L p_110 hL (by omega) ((congrFun (rd_in (by decide) rd_out) _).trans kn_112) ((congrFun (rd_in (by decide) rd_out) _).trans kn_114)) (cwV 1 C.1.2.2.2.2 (gV qw_1398 qw_1400 qw_24 qw_76 qw_1401) rfl rfl rfl (by decide +kernel) ⟨Nat.le_of_ble_eq_true rfl, Nat.le_of_ble_eq_true rfl⟩) (g_rScript C hW_142 hS_143 [.int 110]) rfl rfl hl_146.1 rfl (lv_room (Nat.le_of_ble_eq_true rfl)) dX5_readArguments_43 ⟨Nat.zero_le _, Nat.zero_le _⟩) hS_143 (fun r_148 Y_149 H_150 locs_151 hW_152 hS_153 h_147 => ?_)
        obtain ⟨h_154, h_147⟩ := h_147
        replace h_154 : r_148 = (rvV (X.1 12) L 110 p_110).2 := h_154
        replace h_147 : Y_149 = setRow (setRow (setRow X 11 w_111) 14 w_123) 11 (upd ((setRow (setRow X 11 w_111) 14 w_123).1 11) (6) (nI ((rvV (X.1 12) L 110 p_110).1))) := h_147
        obtain ⟨p_155, ep_155⟩ : ∃ Z9 : Nat, Z9 = (rvV (X.1 12) L 110 p_110).1 := ⟨_, rfl⟩
        rw [← ep_155] at h_147
        have bp_155 : p_110 ≤ p_155 ∧ p_155 ≤ L := by rw [ep_155]; exact rvV_le (by omega) (by omega)
        subst h_154
        obtain ⟨w_156, ew_156⟩ : ∃ Z9, Z9 = upd w_111 (6) (nI p_155) := ⟨_, rfl⟩
        have kn_157 : w_156 (5) = nI L := by rw [ew_156]; exact (kp_upd (by omega)).trans kn_112
        have hW_158 : Wd G (setRow (setRow X 11 w_156) 14 w_123) H_150 := Wd.cast (by rw [h_147, ew_156]; exact ((congrArg (fun Z9 => setRow (setRow (setRow X 11 w_111) 14 w_123) 11 (upd Z9 (6) (nI p_155))) (rd_in (by decide) rd_out)).trans (sr_in (by decide) sr_out))) hW_152
        have kn_159 : w_156 (6) = nI p_155 := by rw [ew_156]; exact pk_us
        refine lv_topi (fun v_160 ev_160 => ?_)
        refine lv_istore (lv' := [(6, .int v_160), (5, .int 110), (4, .int 3), (3, .int 2), (0, .ref (ad G 718)), (1, .ref (cy G (50 + 10))), (2, .ref (ad G (738 + k)))]) hx hb dX5_readArguments_46 hl_146 (by decide) rfl (fun ls_161 hl_162 => ?_)
        refine lv_iload hx hb dX5_readArguments_48 (lv_at hl_162 0 rfl) ?_
        refine lv_iconst (v := (-1)) hx hb dX5_readArguments_50 (by decide) ?_
        refine lv_icmp_eq (tgt := 60) hx hb dX5_readArguments_51 (by decide) (fun b_163 => ?_) (fun b_163 => ?_)
        · refine lv_iconst (v := 0) hx hb dX5_readArguments_60 (by decide) ?_
          exact g_zret C hr hlk hW_158 hS_153 dX5_readArguments_61 rfl (by subst ev_160; subst ew_156; subst ep_155; subst ew_123; subst ev_115; subst ew_111; subst ep_110; subst ew_77; subst ep_76; subst ew_44; subst ev_36; subst ew_32; subst ep_31; exact ⟨by simp only [rdP, Nat.reduceAdd, c32a, c32b, c32c, uu6, b_39, b_81, b_118, b_163, if_true, if_false]; first | done | rfl, by simp only [rdP, Nat.reduceAdd, c32a, c32b, c32c, uu6, b_39, b_81, b_118, b_163, if_true, if_false]; first | done | rfl⟩)
        · refine lv_iload_n hx hb dX5_readArguments_54 rfl (lv_at hl_162 3 rfl) ?_
          refine lv_aload_n hx hb dX5_readArguments_55 rfl (lv_at hl_162 6 rfl) ?_
          refine g_arglen C hW_158 hk dX5_readArguments_56 ?_
          refine lv_icmp_lt (tgt := 62) hx hb dX5_readArguments_57 (by decide) (fun _ => ?_) (fun h9 => absurd h9 (by decide))
          refine lv_aload_n hx hb dX5_readArguments_62 rfl (lv_at hl_162 6 rfl) ?_
          refine lv_iload_n hx hb dX5_readArguments_63 rfl (lv_at hl_162 3 rfl) ?_
          refine lv_iload hx hb dX5_readArguments_64 (lv_at hl_162 0 rfl) ?_
          refine g_argst C hW_158 hS_153 hk 2 (by decide) (vlit (by decide)) dX5_readArguments_66 (fun H_164 locs_165 hW_166 hS_167 => ?_)
          obtain ⟨w_168, ew_168⟩ : ∃ Z9, Z9 = upd w_123 (3 * k + 2) v_160 := ⟨_, rfl⟩
          have hW_169 : Wd G (setRow (setRow X 11 w_156) 14 w_168) H_164 := Wd.cast (by rw [ew_168]; exact st_out) hW_166
          refine lv_iinc (v := 3) (lv' := [(3, .int 3), (6, .int v_160), (5, .int 110), (4, .int 3), (0, .ref (ad G 718)), (1, .ref (cy G (50 + 10))), (2, .ref (ad G (738 + k)))]) hx hb dX5_readArguments_67 hl_162 (k := 3) rfl (by decide) (by decide) rfl (fun ls_170 hl_171 => ?_)
          refine lv_iinc (v := 4) (lv' := [(4, .int 4), (3, .int 3), (6, .int v_160), (5, .int 110), (0, .ref (ad G 718)), (1, .ref (cy G (50 + 10))), (2, .ref (ad G (738 + k)))]) hx hb dX5_readArguments_70 hl_171 (k := 3) rfl (by decide) (by decide) rfl (fun ls_172 hl_173 => ?_)
          refine lv_goto (tgt := 5) hx hb dX5_readArguments_73 (by decide) ?_
          refine lv_iload hx hb dX5_readArguments_5 (lv_at hl_173 0 rfl) ?_
          refine lv_aload_n hx hb dX5_readArguments_7 rfl (lv_at hl_173 5 rfl) ?_
          refine g_calli (va_runV (As := []) (rest := [.int 4]) C.1 (cJ0_length_8abf5_ok l G (setRow (setRow X 11 w_156) 14 w_168) 10 (by decide)) (cwV 0 C.1.2.2.2.2 (gV qw_1373 qw_482 qw_483 qw_79 qw_484) rfl rfl rfl (by decide +kernel) ⟨Nat.le_of_ble_eq_true rfl, Nat.le_of_ble_eq_true rfl⟩) (g_rStr C hW_169 hS_167 (by decide) []) rfl rfl hl_173.1 rfl (lv_room (Nat.le_of_ble_eq_true rfl)) dX5_readArguments_8 ⟨Nat.zero_le _, Nat.zero_le _⟩) hS_167 (fun r_176 Y_175 H_177 locs_178 hW_179 hS_180 h_174 => ?_)
          obtain ⟨h_174, hy_181⟩ := h_174
          replace hy_181 := hy_181.symm
          subst hy_181
          subst h_174
          refine g_top (y := 4) (by decide) ?_
          refine lv_icmp_ge (tgt := 76) hx hb dX5_readArguments_11 (by decide) (fun _ => ?_) (fun h9 => absurd h9 (by decide))
          refine lv_iconst (v := 1) hx hb dX5_readArguments_76 (by decide) ?_
          exact g_zret C hr hlk hW_179 hS_180 dX5_readArguments_77 rfl (by subst ew_168; subst ev_160; subst ew_156; subst ep_155; subst ew_123; subst ev_115; subst ew_111; subst ep_110; subst ew_77; subst ep_76; subst ew_44; subst ev_36; subst ew_32; subst ep_31; exact ⟨by simp only [rdP, Nat.reduceAdd, c32a, c32b, c32c, uu6, b_39, b_81, b_118, b_163, if_true, if_false]; first | done | rfl, by simp only [rdP, Nat.reduceAdd, c32a, c32b, c32c, uu6, b_39, b_81, b_118, b_163, if_true, if_false]; first | done | rfl⟩)
    · refine lv_iconst (v := 0) hx hb dX5_readArguments_38 (by decide) ?_
      exact g_zret C hr hlk hW_79 hS_74 dX5_readArguments_39 rfl (by subst ew_77; subst ep_76; subst ew_44; subst ev_36; subst ew_32; subst ep_31; exact ⟨by simp only [rdP, Nat.reduceAdd, c32a, c32b, c32c, uu6, b_39, b_81, if_true, if_false]; first | done | rfl, by simp only [rdP, Nat.reduceAdd, c32a, c32b, c32c, uu6, b_39, b_81, if_true, if_false]; first | done | rfl⟩)

set_option maxHeartbeats 4000000 in
set_option maxRecDepth 100000 in
theorem cX5_readArguments11_ok (l : Launch) (G : GT) (X : St) (L P : Nat) (hL : L ≤ 60) (hP : P ≤ L) (eL : X.1 11 5 = nI L) (eP : X.1 11 6 = nI P) (k : Nat) (hk : k < 60) : MetI l G yX5_readArguments (wsG yX5_readArguments cX5_readArguments 7 (some .boolean)) (rmz 4 85) [.ref (ad G 718), .ref (cy G (50 + 11)), .ref (ad G (738 + k))] X (fun res Y => res = (rdP (X.1 12) L k [100, 32, 100] 0 P (X.1 14)).1 ∧ Y = setRow (setRow X 11 (upd (X.1 11) (6) (nI (rdP (X.1 12) L k [100, 32, 100] 0 P (X.1 14)).2.1))) 14 (rdP (X.1 12) L k [100, 32, 100] 0 P (X.1 14)).2.2) := by
  refine g_met (cc := cX5_readArguments) (maxL := 7) (ret := (some .boolean)) (by decide) rfl (Nat.le_of_ble_eq_true rfl) ?_
  intro p e s m below meth c ls C hr hlk hnm hW hl
  have hx := C.1.1
  have hb := C.1.2.1
  have hS : va_S (Ab G) s.heap s.heap [] := va_S.rf
  have hl : lv_has ls 7 [(0, .ref (ad G 718)), (1, .ref (cy G (50 + 11))), (2, .ref (ad G (738 + k)))] := hl
  have hW : Wd G (setRow (setRow X 11 (X.1 11)) 14 (X.1 14)) s.heap := Wd.cast (((sr_same (X := setRow X 11 (X.1 11)) rfl).trans (sr_same (X := X) rfl)).symm) hW
  refine lv_iconst (v := 0) hx hb dX5_readArguments_0 (by decide) ?_
  refine lv_istore_n (lv' := [(3, .int 0), (0, .ref (ad G 718)), (1, .ref (cy G (50 + 11))), (2, .ref (ad G (738 + k)))]) hx hb dX5_readArguments_1 rfl hl (by decide) rfl (fun ls_1 hl_2 => ?_)
  refine lv_iconst (v := 0) hx hb dX5_readArguments_2 (by decide) ?_
  refine lv_istore (lv' := [(4, .int 0), (3, .int 0), (0, .ref (ad G 718)), (1, .ref (cy G (50 + 11))), (2, .ref (ad G (738 + k)))]) hx hb dX5_readArguments_3 hl_2 (by decide) rfl (fun ls_3 hl_4 => ?_)
  refine lv_iload hx hb dX5_readArguments_5 (lv_at hl_4 0 rfl) ?_
  refine lv_aload_n hx hb dX5_readArguments_7 rfl (lv_at hl_4 3 rfl) ?_
  refine g_calli (va_runV (As := []) (rest := [.int 0]) C.1 (cJ0_length_8abf5_ok l G (setRow (setRow X 11 (X.1 11)) 14 (X.1 14)) 11 (by decide)) (cwV 0 C.1.2.2.2.2 (gV qw_1373 qw_482 qw_483 qw_79 qw_484) rfl rfl rfl (by decide +kernel) ⟨Nat.le_of_ble_eq_true rfl, Nat.le_of_ble_eq_true rfl⟩) (g_rStr C hW hS (by decide) []) rfl rfl hl_4.1 rfl (lv_room (Nat.le_of_ble_eq_true rfl)) dX5_readArguments_8 ⟨Nat.zero_le _, Nat.zero_le _⟩) hS (fun r_7 Y_6 H_8 locs_9 hW_10 hS_11 h_5 => ?_)
  obtain ⟨h_5, hy_12⟩ := h_5
  replace hy_12 := hy_12.symm
  subst hy_12
  subst h_5
  refine g_top (y := 3) (by decide) ?_
  refine lv_icmp_ge (tgt := 76) hx hb dX5_readArguments_11 (by decide) (fun h9 => absurd h9 (by decide)) (fun _ => ?_)
  refine lv_aload_n hx hb dX5_readArguments_14 rfl (lv_at hl_4 3 rfl) ?_
  refine lv_iload hx hb dX5_readArguments_15 (lv_at hl_4 0 rfl) ?_
  refine g_calli (va_runV (As := [.int 0]) (rest := []) C.1 (cJ0_charAt_5068e_ok l G (setRow (setRow X 11 (X.1 11)) 14 (X.1 14)) 11 (by decide) 0 (by decide)) (cwV 1 C.1.2.2.2.2 (gV qw_1374 qw_1375 qw_1376 qw_79 qw_1377) rfl rfl rfl (by decide +kernel) ⟨Nat.le_of_ble_eq_true rfl, Nat.le_of_ble_eq_true rfl⟩) (g_rStr C hW_10 hS_11 (by decide) [.int 0]) rfl rfl hl_4.1 rfl (lv_room (Nat.le_of_ble_eq_true rfl)) dX5_readArguments_17 ⟨Nat.zero_le _, Nat.zero_le _⟩) hS_11 (fun r_15 Y_14 H_16 locs_17 hW_18 hS_19 h_13 => ?_)
  obtain ⟨h_13, hy_20⟩ := h_13
  replace hy_20 := hy_20.symm
  subst hy_20
  subst h_13
  refine g_top (y := 100) (by decide) ?_
  refine lv_istore (lv' := [(5, .int 100), (4, .int 0), (3, .int 0), (0, .ref (ad G 718)), (1, .ref (cy G (50 + 11))), (2, .ref (ad G (738 + k)))]) hx hb dX5_readArguments_20 hl_4 (by decide) rfl (fun ls_21 hl_22 => ?_)
  refine lv_iload hx hb dX5_readArguments_22 (lv_at hl_22 0 rfl) ?_
  refine lv_bipush (v := 32) hx hb dX5_readArguments_24 (by decide) ?_
  refine lv_icmp_ne (tgt := 40) hx hb dX5_readArguments_26 (by decide) (fun _ => ?_) (fun h9 => absurd h9 (by decide))
  refine lv_aload_n hx hb dX5_readArguments_40 rfl (lv_at hl_22 3 rfl) ?_
  refine lv_iload hx hb dX5_readArguments_41 (lv_at hl_22 0 rfl) ?_
  refine g_calli (va_runV (As := [.int 100]) (rest := []) C.1 (cX5_readValue100_ok l G (setRow (setRow X 11 (X.1 11)) 14 (X.1 14)) L P hL (by omega) ((congrFun (rd_in (by decide) rd_out) _).trans eL) ((congrFun (rd_in (by decide) rd_out) _).trans eP)) (cwV 1 C.1.2.2.2.2 (gV qw_1398 qw_1400 qw_24 qw_76 qw_1401) rfl rfl rfl (by decide +kernel) ⟨Nat.le_of_ble_eq_true rfl, Nat.le_of_ble_eq_true rfl⟩) (g_rScript C hW_18 hS_19 [.int 100]) rfl rfl hl_22.1 rfl (lv_room (Nat.le_of_ble_eq_true rfl)) dX5_readArguments_43 ⟨Nat.zero_le _, Nat.zero_le _⟩) hS_19 (fun r_24 Y_25 H_26 locs_27 hW_28 hS_29 h_23 => ?_)
  obtain ⟨h_30, h_23⟩ := h_23
  replace h_30 : r_24 = (rvV (X.1 12) L 100 P).2 := h_30
  replace h_23 : Y_25 = setRow (setRow (setRow X 11 (X.1 11)) 14 (X.1 14)) 11 (upd ((setRow (setRow X 11 (X.1 11)) 14 (X.1 14)).1 11) (6) (nI ((rvV (X.1 12) L 100 P).1))) := h_23
  obtain ⟨p_31, ep_31⟩ : ∃ Z9 : Nat, Z9 = (rvV (X.1 12) L 100 P).1 := ⟨_, rfl⟩
  rw [← ep_31] at h_23
  have bp_31 : P ≤ p_31 ∧ p_31 ≤ L := by rw [ep_31]; exact rvV_le (by omega) (by omega)
  subst h_30
  obtain ⟨w_32, ew_32⟩ : ∃ Z9, Z9 = upd (X.1 11) (6) (nI p_31) := ⟨_, rfl⟩
  have kn_33 : w_32 (5) = nI L := by rw [ew_32]; exact (kp_upd (by omega)).trans eL
  have hW_34 : Wd G (setRow (setRow X 11 w_32) 14 (X.1 14)) H_26 := Wd.cast (by rw [h_23, ew_32]; exact ((congrArg (fun Z9 => setRow (setRow (setRow X 11 (X.1 11)) 14 (X.1 14)) 11 (upd Z9 (6) (nI p_31))) (rd_in (by decide) rd_out)).trans (sr_in (by decide) sr_out))) hW_28
  have kn_35 : w_32 (6) = nI p_31 := by rw [ew_32]; exact pk_us
  refine lv_topi (fun v_36 ev_36 => ?_)
  refine lv_istore (lv' := [(6, .int v_36), (5, .int 100), (4, .int 0), (3, .int 0), (0, .ref (ad G 718)), (1, .ref (cy G (50 + 11))), (2, .ref (ad G (738 + k)))]) hx hb dX5_readArguments_46 hl_22 (by decide) rfl (fun ls_37 hl_38 => ?_)
  refine lv_iload hx hb dX5_readArguments_48 (lv_at hl_38 0 rfl) ?_
  refine lv_iconst (v := (-1)) hx hb dX5_readArguments_50 (by decide) ?_
  refine lv_icmp_eq (tgt := 60) hx hb dX5_readArguments_51 (by decide) (fun b_39 => ?_) (fun b_39 => ?_)
  · refine lv_iconst (v := 0) hx hb dX5_readArguments_60 (by decide) ?_
    exact g_zret C hr hlk hW_34 hS_29 dX5_readArguments_61 rfl (by subst ev_36; subst ew_32; subst ep_31; exact ⟨by simp only [rdP, Nat.reduceAdd, c32a, c32b, c32c, uu6, b_39, if_true, if_false]; first | done | rfl, by simp only [rdP, Nat.reduceAdd, c32a, c32b, c32c, uu6, b_39, if_true, if_false]; first | done | rfl⟩)
  · refine lv_iload_n hx hb dX5_readArguments_54 rfl (lv_at hl_38 3 rfl) ?_
    refine lv_aload_n hx hb dX5_readArguments_55 rfl (lv_at hl_38 6 rfl) ?_
    refine g_arglen C hW_34 hk dX5_readArguments_56 ?_
    refine lv_icmp_lt (tgt := 62) hx hb dX5_readArguments_57 (by decide) (fun _ => ?_) (fun h9 => absurd h9 (by decide))
    refine lv_aload_n hx hb dX5_readArguments_62 rfl (lv_at hl_38 6 rfl) ?_
    refine lv_iload_n hx hb dX5_readArguments_63 rfl (lv_at hl_38 3 rfl) ?_
    refine lv_iload hx hb dX5_readArguments_64 (lv_at hl_38 0 rfl) ?_
    refine g_argst C hW_34 hS_29 hk 0 (by decide) (vlit (by decide)) dX5_readArguments_66 (fun H_40 locs_41 hW_42 hS_43 => ?_)
    obtain ⟨w_44, ew_44⟩ : ∃ Z9, Z9 = upd (X.1 14) (3 * k + 0) v_36 := ⟨_, rfl⟩
    have hW_45 : Wd G (setRow (setRow X 11 w_32) 14 w_44) H_40 := Wd.cast (by rw [ew_44]; exact st_out) hW_42
    refine lv_iinc (v := 1) (lv' := [(3, .int 1), (6, .int v_36), (5, .int 100), (4, .int 0), (0, .ref (ad G 718)), (1, .ref (cy G (50 + 11))), (2, .ref (ad G (738 + k)))]) hx hb dX5_readArguments_67 hl_38 (k := 3) rfl (by decide) (by decide) rfl (fun ls_46 hl_47 => ?_)
    refine lv_iinc (v := 1) (lv' := [(4, .int 1), (3, .int 1), (6, .int v_36), (5, .int 100), (0, .ref (ad G 718)), (1, .ref (cy G (50 + 11))), (2, .ref (ad G (738 + k)))]) hx hb dX5_readArguments_70 hl_47 (k := 3) rfl (by decide) (by decide) rfl (fun ls_48 hl_49 => ?_)
    refine lv_goto (tgt := 5) hx hb dX5_readArguments_73 (by decide) ?_
    refine lv_iload hx hb dX5_readArguments_5 (lv_at hl_49 0 rfl) ?_
    refine lv_aload_n hx hb dX5_readArguments_7 rfl (lv_at hl_49 5 rfl) ?_
    refine g_calli (va_runV (As := []) (rest := [.int 1]) C.1 (cJ0_length_8abf5_ok l G (setRow (setRow X 11 w_32) 14 w_44) 11 (by decide)) (cwV 0 C.1.2.2.2.2 (gV qw_1373 qw_482 qw_483 qw_79 qw_484) rfl rfl rfl (by decide +kernel) ⟨Nat.le_of_ble_eq_true rfl, Nat.le_of_ble_eq_true rfl⟩) (g_rStr C hW_45 hS_43 (by decide) []) rfl rfl hl_49.1 rfl (lv_room (Nat.le_of_ble_eq_true rfl)) dX5_readArguments_8 ⟨Nat.zero_le _, Nat.zero_le _⟩) hS_43 (fun r_52 Y_51 H_53 locs_54 hW_55 hS_56 h_50 => ?_)
    obtain ⟨h_50, hy_57⟩ := h_50
    replace hy_57 := hy_57.symm
    subst hy_57
    subst h_50
    refine g_top (y := 3) (by decide) ?_
    refine lv_icmp_ge (tgt := 76) hx hb dX5_readArguments_11 (by decide) (fun h9 => absurd h9 (by decide)) (fun _ => ?_)
    refine lv_aload_n hx hb dX5_readArguments_14 rfl (lv_at hl_49 5 rfl) ?_
    refine lv_iload hx hb dX5_readArguments_15 (lv_at hl_49 0 rfl) ?_
    refine g_calli (va_runV (As := [.int 1]) (rest := []) C.1 (cJ0_charAt_5068e_ok l G (setRow (setRow X 11 w_32) 14 w_44) 11 (by decide) 1 (by decide)) (cwV 1 C.1.2.2.2.2 (gV qw_1374 qw_1375 qw_1376 qw_79 qw_1377) rfl rfl rfl (by decide +kernel) ⟨Nat.le_of_ble_eq_true rfl, Nat.le_of_ble_eq_true rfl⟩) (g_rStr C hW_55 hS_56 (by decide) [.int 1]) rfl rfl hl_49.1 rfl (lv_room (Nat.le_of_ble_eq_true rfl)) dX5_readArguments_17 ⟨Nat.zero_le _, Nat.zero_le _⟩) hS_56 (fun r_60 Y_59 H_61 locs_62 hW_63 hS_64 h_58 => ?_)
    obtain ⟨h_58, hy_65⟩ := h_58
    replace hy_65 := hy_65.symm
    subst hy_65
    subst h_58
    refine g_top (y := 32) (by decide) ?_
    refine lv_istore (lv' := [(5, .int 32), (4, .int 1), (3, .int 1), (6, .int v_36), (0, .ref (ad G 718)), (1, .ref (cy G (50 + 11))), (2, .ref (ad G (738 + k)))]) hx hb dX5_readArguments_20 hl_49 (by decide) rfl (fun ls_66 hl_67 => ?_)
    refine lv_iload hx hb dX5_readArguments_22 (lv_at hl_67 0 rfl) ?_
    refine lv_bipush (v := 32) hx hb dX5_readArguments_24 (by decide) ?_
    refine lv_icmp_ne (tgt := 40) hx hb dX5_readArguments_26 (by decide) (fun h9 => absurd h9 (by decide)) (fun _ => ?_)
    refine lv_aload_n hx hb dX5_readArguments_29 rfl (lv_at hl_67 4 rfl) ?_
    refine lv_bipush (v := 32) hx hb dX5_readArguments_30 (by decide) ?_
    refine g_calli (va_runV (As := [.int 32]) (rest := []) C.1 (cX5_readSign_ok l G (setRow (setRow X 11 w_32) 14 w_44) L p_31 hL (by omega) ((congrFun (rd_in (by decide) rd_out) _).trans kn_33) ((congrFun (rd_in (by decide) rd_out) _).trans kn_35) 32) (cwV 1 C.1.2.2.2.2 (gV qw_1394 qw_1396 qw_23 qw_76 qw_1397) rfl rfl rfl (by decide +kernel) ⟨Nat.le_of_ble_eq_true rfl, Nat.le_of_ble_eq_true rfl⟩) (g_rScript C hW_63 hS_64 [.int 32]) rfl rfl hl_67.1 rfl (lv_room (Nat.le_of_ble_eq_true rfl)) dX5_readArguments_32 ⟨Nat.zero_le _, Nat.zero_le _⟩) hS_64 (fun r_69 Y_70 H_71 locs_72 hW_73 hS_74 h_68 => ?_)
    obtain ⟨h_75, h_68⟩ := h_68
    replace h_75 : r_69 = (rsV (X.1 12) L p_31 32).2 := h_75
    replace h_68 : Y_70 = setRow (setRow (setRow X 11 w_32) 14 w_44) 11 (upd ((setRow (setRow X 11 w_32) 14 w_44).1 11) (6) (nI ((rsV (X.1 12) L p_31 32).1))) := h_68
    obtain ⟨p_76, ep_76⟩ : ∃ Z9 : Nat, Z9 = (rsV (X.1 12) L p_31 32).1 := ⟨_, rfl⟩
    rw [← ep_76] at h_68
    have bp_76 : p_31 ≤ p_76 ∧ p_76 ≤ L := by rw [ep_76]; exact rsV_le (by omega) (by omega)
    subst h_75
    obtain ⟨w_77, ew_77⟩ : ∃ Z9, Z9 = upd w_32 (6) (nI p_76) := ⟨_, rfl⟩
    have kn_78 : w_77 (5) = nI L := by rw [ew_77]; exact (kp_upd (by omega)).trans kn_33
    have hW_79 : Wd G (setRow (setRow X 11 w_77) 14 w_44) H_71 := Wd.cast (by rw [h_68, ew_77]; exact ((congrArg (fun Z9 => setRow (setRow (setRow X 11 w_32) 14 w_44) 11 (upd Z9 (6) (nI p_76))) (rd_in (by decide) rd_out)).trans (sr_in (by decide) sr_out))) hW_73
    have kn_80 : w_77 (6) = nI p_76 := by rw [ew_77]; exact pk_us
    refine lv_if_ne (tgt := 70) hx hb dX5_readArguments_35 (by decide) (fun b_81 => ?_) (fun b_81 => ?_)
    · refine lv_iinc (v := 2) (lv' := [(4, .int 2), (5, .int 32), (3, .int 1), (6, .int v_36), (0, .ref (ad G 718)), (1, .ref (cy G (50 + 11))), (2, .ref (ad G (738 + k)))]) hx hb dX5_readArguments_70 hl_67 (k := 1) rfl (by decide) (by decide) rfl (fun ls_82 hl_83 => ?_)
      refine lv_goto (tgt := 5) hx hb dX5_readArguments_73 (by decide) ?_
      refine lv_iload hx hb dX5_readArguments_5 (lv_at hl_83 0 rfl) ?_
      refine lv_aload_n hx hb dX5_readArguments_7 rfl (lv_at hl_83 5 rfl) ?_
      refine g_calli (va_runV (As := []) (rest := [.int 2]) C.1 (cJ0_length_8abf5_ok l G (setRow (setRow X 11 w_77) 14 w_44) 11 (by decide)) (cwV 0 C.1.2.2.2.2 (gV qw_1373 qw_482 qw_483 qw_79 qw_484) rfl rfl rfl (by decide +kernel) ⟨Nat.le_of_ble_eq_true rfl, Nat.le_of_ble_eq_true rfl⟩) (g_rStr C hW_79 hS_74 (by decide) []) rfl rfl hl_83.1 rfl (lv_room (Nat.le_of_ble_eq_true rfl)) dX5_readArguments_8 ⟨Nat.zero_le _, Nat.zero_le _⟩) hS_74 (fun r_86 Y_85 H_87 locs_88 hW_89 hS_90 h_84 => ?_)
      obtain ⟨h_84, hy_91⟩ := h_84
      replace hy_91 := hy_91.symm
      subst hy_91
      subst h_84
      refine g_top (y := 3) (by decide) ?_
      refine lv_icmp_ge (tgt := 76) hx hb dX5_readArguments_11 (by decide) (fun h9 => absurd h9 (by decide)) (fun _ => ?_)
      refine lv_aload_n hx hb dX5_readArguments_14 rfl (lv_at hl_83 5 rfl) ?_
      refine lv_iload hx hb dX5_readArguments_15 (lv_at hl_83 0 rfl) ?_
      refine g_calli (va_runV (As := [.int 2]) (rest := []) C.1 (cJ0_charAt_5068e_ok l G (setRow (setRow X 11 w_77) 14 w_44) 11 (by decide) 2 (by decide)) (cwV 1 C.1.2.2.2.2 (gV qw_1374 qw_1375 qw_1376 qw_79 qw_1377) rfl rfl rfl (by decide +kernel) ⟨Nat.le_of_ble_eq_true rfl, Nat.le_of_ble_eq_true rfl⟩) (g_rStr C hW_89 hS_90 (by decide) [.int 2]) rfl rfl hl_83.1 rfl (lv_room (Nat.le_of_ble_eq_true rfl)) dX5_readArguments_17 ⟨Nat.zero_le _, Nat.zero_le _⟩) hS_90 (fun r_94 Y_93 H_95 locs_96 hW_97 hS_98 h_92 => ?_)
      obtain ⟨h_92, hy_99⟩ := h_92
      replace hy_99 := hy_99.symm
      subst hy_99
      subst h_92
      refine g_top (y := 100) (by decide) ?_
      refine lv_istore (lv' := [(5, .int 100), (4, .int 2), (3, .int 1), (6, .int v_36), (0, .ref (ad G 718)), (1, .ref (cy G (50 + 11))), (2, .ref (ad G (738 + k)))]) hx hb dX5_readArguments_20 hl_83 (by decide) rfl (fun ls_100 hl_101 => ?_)
      refine lv_iload hx hb dX5_readArguments_22 (lv_at hl_101 0 rfl) ?_
      refine lv_bipush (v := 32) hx hb dX5_readArguments_24 (by decide) ?_
      refine lv_icmp_ne (tgt := 40) hx hb dX5_readArguments_26 (by decide) (fun _ => ?_) (fun h9 => absurd h9 (by decide))
      refine lv_aload_n hx hb dX5_readArguments_40 rfl (lv_at hl_101 4 rfl) ?_
      refine lv_iload hx hb dX5_readArguments_41 (lv_at hl_101 0 rfl) ?_
      refine g_calli (va_runV (As := [.int 100]) (rest := []) C.1 (cX5_readValue100_ok l G (setRow (setRow X 11 w_77) 14 w_44) L p_76 hL (by omega) ((congrFun (rd_in (by decide) rd_out) _).trans kn_78) ((congrFun (rd_in (by decide) rd_out) _).trans kn_80)) (cwV 1 C.1.2.2.2.2 (gV qw_1398 qw_1400 qw_24 qw_76 qw_1401) rfl rfl rfl (by decide +kernel) ⟨Nat.le_of_ble_eq_true rfl, Nat.le_of_ble_eq_true rfl⟩) (g_rScript C hW_97 hS_98 [.int 100]) rfl rfl hl_101.1 rfl (lv_room (Nat.le_of_ble_eq_true rfl)) dX5_readArguments_43 ⟨Nat.zero_le _, Nat.zero_le _⟩) hS_98 (fun r_103 Y_104 H_105 locs_106 hW_107 hS_108 h_102 => ?_)
      obtain ⟨h_109, h_102⟩ := h_102
      replace h_109 : r_103 = (rvV (X.1 12) L 100 p_76).2 := h_109
      replace h_102 : Y_104 = setRow (setRow (setRow X 11 w_77) 14 w_44) 11 (upd ((setRow (setRow X 11 w_77) 14 w_44).1 11) (6) (nI ((rvV (X.1 12) L 100 p_76).1))) := h_102
      obtain ⟨p_110, ep_110⟩ : ∃ Z9 : Nat, Z9 = (rvV (X.1 12) L 100 p_76).1 := ⟨_, rfl⟩
      rw [← ep_110] at h_102
      have bp_110 : p_76 ≤ p_110 ∧ p_110 ≤ L := by rw [ep_110]; exact rvV_le (by omega) (by omega)
      subst h_109
      obtain ⟨w_111, ew_111⟩ : ∃ Z9, Z9 = upd w_77 (6) (nI p_110) := ⟨_, rfl⟩
      have kn_112 : w_111 (5) = nI L := by rw [ew_111]; exact (kp_upd (by omega)).trans kn_78
      have hW_113 : Wd G (setRow (setRow X 11 w_111) 14 w_44) H_105 := Wd.cast (by rw [h_102, ew_111]; exact ((congrArg (fun Z9 => setRow (setRow (setRow X 11 w_77) 14 w_44) 11 (upd Z9 (6) (nI p_110))) (rd_in (by decide) rd_out)).trans (sr_in (by decide) sr_out))) hW_107
      have kn_114 : w_111 (6) = nI p_110 := by rw [ew_111]; exact pk_us
      refine lv_topi (fun v_115 ev_115 => ?_)
      refine lv_istore (lv' := [(6, .int v_115), (5, .int 100), (4, .int 2), (3, .int 1), (0, .ref (ad G 718)), (1, .ref (cy G (50 + 11))), (2, .ref (ad G (738 + k)))]) hx hb dX5_readArguments_46 hl_101 (by decide) rfl (fun ls_116 hl_117 => ?_)
      refine lv_iload hx hb dX5_readArguments_48 (lv_at hl_117 0 rfl) ?_
      refine lv_iconst (v := (-1)) hx hb dX5_readArguments_50 (by decide) ?_
      refine lv_icmp_eq (tgt := 60) hx hb dX5_readArguments_51 (by decide) (fun b_118 => ?_) (fun b_118 => ?_)
      · refine lv_iconst (v := 0) hx hb dX5_readArguments_60 (by decide) ?_
        exact g_zret C hr hlk hW_113 hS_108 dX5_readArguments_61 rfl (by subst ev_115; subst ew_111; subst ep_110; subst ew_77; subst ep_76; subst ew_44; subst ev_36; subst ew_32; subst ep_31; exact ⟨by simp only [rdP, Nat.reduceAdd, c32a, c32b, c32c, uu6, b_39, b_81, b_118, if_true, if_false]; first | done | rfl, by simp only [rdP, Nat.reduceAdd, c32a, c32b, c32c, uu6, b_39, b_81, b_118, if_true, if_false]; first | done | rfl⟩)
      · refine lv_iload_n hx hb dX5_readArguments_54 rfl (lv_at hl_117 3 rfl) ?_
        refine lv_aload_n hx hb dX5_readArguments_55 rfl (lv_at hl_117 6 rfl) ?_
        refine g_arglen C hW_113 hk dX5_readArguments_56 ?_
        refine lv_icmp_lt (tgt := 62) hx hb dX5_readArguments_57 (by decide) (fun _ => ?_) (fun h9 => absurd h9 (by decide))
        refine lv_aload_n hx hb dX5_readArguments_62 rfl (lv_at hl_117 6 rfl) ?_
        refine lv_iload_n hx hb dX5_readArguments_63 rfl (lv_at hl_117 3 rfl) ?_
        refine lv_iload hx hb dX5_readArguments_64 (lv_at hl_117 0 rfl) ?_
        refine g_argst C hW_113 hS_108 hk 1 (by decide) (vlit (by decide)) dX5_readArguments_66 (fun H_119 locs_120 hW_121 hS_122 => ?_)
        obtain ⟨w_123, ew_123⟩ : ∃ Z9, Z9 = upd w_44 (3 * k + 1) v_115 := ⟨_, rfl⟩
        have hW_124 : Wd G (setRow (setRow X 11 w_111) 14 w_123) H_119 := Wd.cast (by rw [ew_123]; exact st_out) hW_121
        refine lv_iinc (v := 2) (lv' := [(3, .int 2), (6, .int v_115), (5, .int 100), (4, .int 2), (0, .ref (ad G 718)), (1, .ref (cy G (50 + 11))), (2, .ref (ad G (738 + k)))]) hx hb dX5_readArguments_67 hl_117 (k := 3) rfl (by decide) (by decide) rfl (fun ls_125 hl_126 => ?_)
        refine lv_iinc (v := 3) (lv' := [(4, .int 3), (3, .int 2), (6, .int v_115), (5, .int 100), (0, .ref (ad G 718)), (1, .ref (cy G (50 + 11))), (2, .ref (ad G (738 + k)))]) hx hb dX5_readArguments_70 hl_126 (k := 3) rfl (by decide) (by decide) rfl (fun ls_127 hl_128 => ?_)
        refine lv_goto (tgt := 5) hx hb dX5_readArguments_73 (by decide) ?_
        refine lv_iload hx hb dX5_readArguments_5 (lv_at hl_128 0 rfl) ?_
        refine lv_aload_n hx hb dX5_readArguments_7 rfl (lv_at hl_128 5 rfl) ?_
        refine g_calli (va_runV (As := []) (rest := [.int 3]) C.1 (cJ0_length_8abf5_ok l G (setRow (setRow X 11 w_111) 14 w_123) 11 (by decide)) (cwV 0 C.1.2.2.2.2 (gV qw_1373 qw_482 qw_483 qw_79 qw_484) rfl rfl rfl (by decide +kernel) ⟨Nat.le_of_ble_eq_true rfl, Nat.le_of_ble_eq_true rfl⟩) (g_rStr C hW_124 hS_122 (by decide) []) rfl rfl hl_128.1 rfl (lv_room (Nat.le_of_ble_eq_true rfl)) dX5_readArguments_8 ⟨Nat.zero_le _, Nat.zero_le _⟩) hS_122 (fun r_131 Y_130 H_132 locs_133 hW_134 hS_135 h_129 => ?_)
        obtain ⟨h_129, hy_136⟩ := h_129
        replace hy_136 := hy_136.symm
        subst hy_136
        subst h_129
        refine g_top (y := 3) (by decide) ?_
        refine lv_icmp_ge (tgt := 76) hx hb dX5_readArguments_11 (by decide) (fun _ => ?_) (fun h9 => absurd h9 (by decide))
        refine lv_iconst (v := 1) hx hb dX5_readArguments_76 (by decide) ?_
        exact g_zret C hr hlk hW_134 hS_135 dX5_readArguments_77 rfl (by subst ew_123; subst ev_115; subst ew_111; subst ep_110; subst ew_77; subst ep_76; subst ew_44; subst ev_36; subst ew_32; subst ep_31; exact ⟨by simp only [rdP, Nat.reduceAdd, c32a, c32b, c32c, uu6, b_39, b_81, b_118, if_true, if_false]; first | done | rfl, by simp only [rdP, Nat.reduceAdd, c32a, c32b, c32c, uu6, b_39, b_81, b_118, if_true, if_false]; first | done | rfl⟩)
    · refine lv_iconst (v := 0) hx hb dX5_readArguments_38 (by decide) ?_
      exact g_zret C hr hlk hW_79 hS_74 dX5_readArguments_39 rfl (by subst ew_77; subst ep_76; subst ew_44; subst ev_36; subst ew_32; subst ep_31; exact ⟨by simp only [rdP, Nat.reduceAdd, c32a, c32b, c32c, uu6, b_39, b_81, if_true, if_false]; first | done | rfl, by simp only [rdP, Nat.reduceAdd, c32a, c32b, c32c, uu6, b_39, b_81, if_true, if_false]; first | done | rfl⟩)

set_option maxHeartbeats 4000000 in
set_option maxRecDepth 100000 in
theorem cX5_readArguments12_ok (l : Launch) (G : GT) (X : St) (L P : Nat) (hL : L ≤ 60) (hP : P ≤ L) (eL : X.1 11 5 = nI L) (eP : X.1 11 6 = nI P) (k : Nat) (hk : k < 60) : MetI l G yX5_readArguments (wsG yX5_readArguments cX5_readArguments 7 (some .boolean)) (rmz 4 85) [.ref (ad G 718), .ref (cy G (50 + 12)), .ref (ad G (738 + k))] X (fun res Y => res = (rdP (X.1 12) L k [100] 0 P (X.1 14)).1 ∧ Y = setRow (setRow X 11 (upd (X.1 11) (6) (nI (rdP (X.1 12) L k [100] 0 P (X.1 14)).2.1))) 14 (rdP (X.1 12) L k [100] 0 P (X.1 14)).2.2) := by
  refine g_met (cc := cX5_readArguments) (maxL := 7) (ret := (some .boolean)) (by decide) rfl (Nat.le_of_ble_eq_true rfl) ?_
  intro p e s m below meth c ls C hr hlk hnm hW hl
  have hx := C.1.1
  have hb := C.1.2.1
  have hS : va_S (Ab G) s.heap s.heap [] := va_S.rf
  have hl : lv_has ls 7 [(0, .ref (ad G 718)), (1, .ref (cy G (50 + 12))), (2, .ref (ad G (738 + k)))] := hl
  have hW : Wd G (setRow (setRow X 11 (X.1 11)) 14 (X.1 14)) s.heap := Wd.cast (((sr_same (X := setRow X 11 (X.1 11)) rfl).trans (sr_same (X := X) rfl)).symm) hW
  refine lv_iconst (v := 0) hx hb dX5_readArguments_0 (by decide) ?_
  refine lv_istore_n (lv' := [(3, .int 0), (0, .ref (ad G 718)), (1, .ref (cy G (50 + 12))), (2, .ref (ad G (738 + k)))]) hx hb dX5_readArguments_1 rfl hl (by decide) rfl (fun ls_1 hl_2 => ?_)
  refine lv_iconst (v := 0) hx hb dX5_readArguments_2 (by decide) ?_
  refine lv_istore (lv' := [(4, .int 0), (3, .int 0), (0, .ref (ad G 718)), (1, .ref (cy G (50 + 12))), (2, .ref (ad G (738 + k)))]) hx hb dX5_readArguments_3 hl_2 (by decide) rfl (fun ls_3 hl_4 => ?_)
  refine lv_iload hx hb dX5_readArguments_5 (lv_at hl_4 0 rfl) ?_
  refine lv_aload_n hx hb dX5_readArguments_7 rfl (lv_at hl_4 3 rfl) ?_
  refine g_calli (va_runV (As := []) (rest := [.int 0]) C.1 (cJ0_length_8abf5_ok l G (setRow (setRow X 11 (X.1 11)) 14 (X.1 14)) 12 (by decide)) (cwV 0 C.1.2.2.2.2 (gV qw_1373 qw_482 qw_483 qw_79 qw_484) rfl rfl rfl (by decide +kernel) ⟨Nat.le_of_ble_eq_true rfl, Nat.le_of_ble_eq_true rfl⟩) (g_rStr C hW hS (by decide) []) rfl rfl hl_4.1 rfl (lv_room (Nat.le_of_ble_eq_true rfl)) dX5_readArguments_8 ⟨Nat.zero_le _, Nat.zero_le _⟩) hS (fun r_7 Y_6 H_8 locs_9 hW_10 hS_11 h_5 => ?_)
  obtain ⟨h_5, hy_12⟩ := h_5
  replace hy_12 := hy_12.symm
  subst hy_12
  subst h_5
  refine g_top (y := 1) (by decide) ?_
  refine lv_icmp_ge (tgt := 76) hx hb dX5_readArguments_11 (by decide) (fun h9 => absurd h9 (by decide)) (fun _ => ?_)
  refine lv_aload_n hx hb dX5_readArguments_14 rfl (lv_at hl_4 3 rfl) ?_
  refine lv_iload hx hb dX5_readArguments_15 (lv_at hl_4 0 rfl) ?_
  refine g_calli (va_runV (As := [.int 0]) (rest := []) C.1 (cJ0_charAt_5068e_ok l G (setRow (setRow X 11 (X.1 11)) 14 (X.1 14)) 12 (by decide) 0 (by decide)) (cwV 1 C.1.2.2.2.2 (gV qw_1374 qw_1375 qw_1376 qw_79 qw_1377) rfl rfl rfl (by decide +kernel) ⟨Nat.le_of_ble_eq_true rfl, Nat.le_of_ble_eq_true rfl⟩) (g_rStr C hW_10 hS_11 (by decide) [.int 0]) rfl rfl hl_4.1 rfl (lv_room (Nat.le_of_ble_eq_true rfl)) dX5_readArguments_17 ⟨Nat.zero_le _, Nat.zero_le _⟩) hS_11 (fun r_15 Y_14 H_16 locs_17 hW_18 hS_19 h_13 => ?_)
  obtain ⟨h_13, hy_20⟩ := h_13
  replace hy_20 := hy_20.symm
  subst hy_20
  subst h_13
  refine g_top (y := 100) (by decide) ?_
  refine lv_istore (lv' := [(5, .int 100), (4, .int 0), (3, .int 0), (0, .ref (ad G 718)), (1, .ref (cy G (50 + 12))), (2, .ref (ad G (738 + k)))]) hx hb dX5_readArguments_20 hl_4 (by decide) rfl (fun ls_21 hl_22 => ?_)
  refine lv_iload hx hb dX5_readArguments_22 (lv_at hl_22 0 rfl) ?_
  refine lv_bipush (v := 32) hx hb dX5_readArguments_24 (by decide) ?_
  refine lv_icmp_ne (tgt := 40) hx hb dX5_readArguments_26 (by decide) (fun _ => ?_) (fun h9 => absurd h9 (by decide))
  refine lv_aload_n hx hb dX5_readArguments_40 rfl (lv_at hl_22 3 rfl) ?_
  refine lv_iload hx hb dX5_readArguments_41 (lv_at hl_22 0 rfl) ?_
  refine g_calli (va_runV (As := [.int 100]) (rest := []) C.1 (cX5_readValue100_ok l G (setRow (setRow X 11 (X.1 11)) 14 (X.1 14)) L P hL (by omega) ((congrFun (rd_in (by decide) rd_out) _).trans eL) ((congrFun (rd_in (by decide) rd_out) _).trans eP)) (cwV 1 C.1.2.2.2.2 (gV qw_1398 qw_1400 qw_24 qw_76 qw_1401) rfl rfl rfl (by decide +kernel) ⟨Nat.le_of_ble_eq_true rfl, Nat.le_of_ble_eq_true rfl⟩) (g_rScript C hW_18 hS_19 [.int 100]) rfl rfl hl_22.1 rfl (lv_room (Nat.le_of_ble_eq_true rfl)) dX5_readArguments_43 ⟨Nat.zero_le _, Nat.zero_le _⟩) hS_19 (fun r_24 Y_25 H_26 locs_27 hW_28 hS_29 h_23 => ?_)
  obtain ⟨h_30, h_23⟩ := h_23
  replace h_30 : r_24 = (rvV (X.1 12) L 100 P).2 := h_30
  replace h_23 : Y_25 = setRow (setRow (setRow X 11 (X.1 11)) 14 (X.1 14)) 11 (upd ((setRow (setRow X 11 (X.1 11)) 14 (X.1 14)).1 11) (6) (nI ((rvV (X.1 12) L 100 P).1))) := h_23
  obtain ⟨p_31, ep_31⟩ : ∃ Z9 : Nat, Z9 = (rvV (X.1 12) L 100 P).1 := ⟨_, rfl⟩
  rw [← ep_31] at h_23
  have bp_31 : P ≤ p_31 ∧ p_31 ≤ L := by rw [ep_31]; exact rvV_le (by omega) (by omega)
  subst h_30
  obtain ⟨w_32, ew_32⟩ : ∃ Z9, Z9 = upd (X.1 11) (6) (nI p_31) := ⟨_, rfl⟩
  have kn_33 : w_32 (5) = nI L := by rw [ew_32]; exact (kp_upd (by omega)).trans eL
  have hW_34 : Wd G (setRow (setRow X 11 w_32) 14 (X.1 14)) H_26 := Wd.cast (by rw [h_23, ew_32]; exact ((congrArg (fun Z9 => setRow (setRow (setRow X 11 (X.1 11)) 14 (X.1 14)) 11 (upd Z9 (6) (nI p_31))) (rd_in (by decide) rd_out)).trans (sr_in (by decide) sr_out))) hW_28
  have kn_35 : w_32 (6) = nI p_31 := by rw [ew_32]; exact pk_us
  refine lv_topi (fun v_36 ev_36 => ?_)
  refine lv_istore (lv' := [(6, .int v_36), (5, .int 100), (4, .int 0), (3, .int 0), (0, .ref (ad G 718)), (1, .ref (cy G (50 + 12))), (2, .ref (ad G (738 + k)))]) hx hb dX5_readArguments_46 hl_22 (by decide) rfl (fun ls_37 hl_38 => ?_)
  refine lv_iload hx hb dX5_readArguments_48 (lv_at hl_38 0 rfl) ?_
  refine lv_iconst (v := (-1)) hx hb dX5_readArguments_50 (by decide) ?_
  refine lv_icmp_eq (tgt := 60) hx hb dX5_readArguments_51 (by decide) (fun b_39 => ?_) (fun b_39 => ?_)
  · refine lv_iconst (v := 0) hx hb dX5_readArguments_60 (by decide) ?_
    exact g_zret C hr hlk hW_34 hS_29 dX5_readArguments_61 rfl (by subst ev_36; subst ew_32; subst ep_31; exact ⟨by simp only [rdP, Nat.reduceAdd, c32a, c32b, c32c, uu6, b_39, if_true, if_false]; first | done | rfl, by simp only [rdP, Nat.reduceAdd, c32a, c32b, c32c, uu6, b_39, if_true, if_false]; first | done | rfl⟩)
  · refine lv_iload_n hx hb dX5_readArguments_54 rfl (lv_at hl_38 3 rfl) ?_
    refine lv_aload_n hx hb dX5_readArguments_55 rfl (lv_at hl_38 6 rfl) ?_
    refine g_arglen C hW_34 hk dX5_readArguments_56 ?_
    refine lv_icmp_lt (tgt := 62) hx hb dX5_readArguments_57 (by decide) (fun _ => ?_) (fun h9 => absurd h9 (by decide))
    refine lv_aload_n hx hb dX5_readArguments_62 rfl (lv_at hl_38 6 rfl) ?_
    refine lv_iload_n hx hb dX5_readArguments_63 rfl (lv_at hl_38 3 rfl) ?_
    refine lv_iload hx hb dX5_readArguments_64 (lv_at hl_38 0 rfl) ?_
    refine g_argst C hW_34 hS_29 hk 0 (by decide) (vlit (by decide)) dX5_readArguments_66 (fun H_40 locs_41 hW_42 hS_43 => ?_)
    obtain ⟨w_44, ew_44⟩ : ∃ Z9, Z9 = upd (X.1 14) (3 * k + 0) v_36 := ⟨_, rfl⟩
    have hW_45 : Wd G (setRow (setRow X 11 w_32) 14 w_44) H_40 := Wd.cast (by rw [ew_44]; exact st_out) hW_42
    refine lv_iinc (v := 1) (lv' := [(3, .int 1), (6, .int v_36), (5, .int 100), (4, .int 0), (0, .ref (ad G 718)), (1, .ref (cy G (50 + 12))), (2, .ref (ad G (738 + k)))]) hx hb dX5_readArguments_67 hl_38 (k := 3) rfl (by decide) (by decide) rfl (fun ls_46 hl_47 => ?_)
    refine lv_iinc (v := 1) (lv' := [(4, .int 1), (3, .int 1), (6, .int v_36), (5, .int 100), (0, .ref (ad G 718)), (1, .ref (cy G (50 + 12))), (2, .ref (ad G (738 + k)))]) hx hb dX5_readArguments_70 hl_47 (k := 3) rfl (by decide) (by decide) rfl (fun ls_48 hl_49 => ?_)
    refine lv_goto (tgt := 5) hx hb dX5_readArguments_73 (by decide) ?_
    refine lv_iload hx hb dX5_readArguments_5 (lv_at hl_49 0 rfl) ?_
    refine lv_aload_n hx hb dX5_readArguments_7 rfl (lv_at hl_49 5 rfl) ?_
    refine g_calli (va_runV (As := []) (rest := [.int 1]) C.1 (cJ0_length_8abf5_ok l G (setRow (setRow X 11 w_32) 14 w_44) 12 (by decide)) (cwV 0 C.1.2.2.2.2 (gV qw_1373 qw_482 qw_483 qw_79 qw_484) rfl rfl rfl (by decide +kernel) ⟨Nat.le_of_ble_eq_true rfl, Nat.le_of_ble_eq_true rfl⟩) (g_rStr C hW_45 hS_43 (by decide) []) rfl rfl hl_49.1 rfl (lv_room (Nat.le_of_ble_eq_true rfl)) dX5_readArguments_8 ⟨Nat.zero_le _, Nat.zero_le _⟩) hS_43 (fun r_52 Y_51 H_53 locs_54 hW_55 hS_56 h_50 => ?_)
    obtain ⟨h_50, hy_57⟩ := h_50
    replace hy_57 := hy_57.symm
    subst hy_57
    subst h_50
    refine g_top (y := 1) (by decide) ?_
    refine lv_icmp_ge (tgt := 76) hx hb dX5_readArguments_11 (by decide) (fun _ => ?_) (fun h9 => absurd h9 (by decide))
    refine lv_iconst (v := 1) hx hb dX5_readArguments_76 (by decide) ?_
    exact g_zret C hr hlk hW_55 hS_56 dX5_readArguments_77 rfl (by subst ew_44; subst ev_36; subst ew_32; subst ep_31; exact ⟨by simp only [rdP, Nat.reduceAdd, c32a, c32b, c32c, uu6, b_39, if_true, if_false]; first | done | rfl, by simp only [rdP, Nat.reduceAdd, c32a, c32b, c32c, uu6, b_39, if_true, if_false]; first | done | rfl⟩)

set_option maxHeartbeats 4000000 in
set_option maxRecDepth 100000 in
theorem cX5_readArguments13_ok (l : Launch) (G : GT) (X : St) (L P : Nat) (hL : L ≤ 60) (hP : P ≤ L) (eL : X.1 11 5 = nI L) (eP : X.1 11 6 = nI P) (k : Nat) (hk : k < 60) : MetI l G yX5_readArguments (wsG yX5_readArguments cX5_readArguments 7 (some .boolean)) (rmz 4 85) [.ref (ad G 718), .ref (cy G (50 + 13)), .ref (ad G (738 + k))] X (fun res Y => res = (rdP (X.1 12) L k [100, 32, 100, 32, 110] 0 P (X.1 14)).1 ∧ Y = setRow (setRow X 11 (upd (X.1 11) (6) (nI (rdP (X.1 12) L k [100, 32, 100, 32, 110] 0 P (X.1 14)).2.1))) 14 (rdP (X.1 12) L k [100, 32, 100, 32, 110] 0 P (X.1 14)).2.2) := by
  refine g_met (cc := cX5_readArguments) (maxL := 7) (ret := (some .boolean)) (by decide) rfl (Nat.le_of_ble_eq_true rfl) ?_
  intro p e s m below meth c ls C hr hlk hnm hW hl
  have hx := C.1.1
  have hb := C.1.2.1
  have hS : va_S (Ab G) s.heap s.heap [] := va_S.rf
  have hl : lv_has ls 7 [(0, .ref (ad G 718)), (1, .ref (cy G (50 + 13))), (2, .ref (ad G (738 + k)))] := hl
  have hW : Wd G (setRow (setRow X 11 (X.1 11)) 14 (X.1 14)) s.heap := Wd.cast (((sr_same (X := setRow X 11 (X.1 11)) rfl).trans (sr_same (X := X) rfl)).symm) hW
  refine lv_iconst (v := 0) hx hb dX5_readArguments_0 (by decide) ?_
  refine lv_istore_n (lv' := [(3, .int 0), (0, .ref (ad G 718)), (1, .ref (cy G (50 + 13))), (2, .ref (ad G (738 + k)))]) hx hb dX5_readArguments_1 rfl hl (by decide) rfl (fun ls_1 hl_2 => ?_)
  refine lv_iconst (v := 0) hx hb dX5_readArguments_2 (by decide) ?_
  refine lv_istore (lv' := [(4, .int 0), (3, .int 0), (0, .ref (ad G 718)), (1, .ref (cy G (50 + 13))), (2, .ref (ad G (738 + k)))]) hx hb dX5_readArguments_3 hl_2 (by decide) rfl (fun ls_3 hl_4 => ?_)
  refine lv_iload hx hb dX5_readArguments_5 (lv_at hl_4 0 rfl) ?_
  refine lv_aload_n hx hb dX5_readArguments_7 rfl (lv_at hl_4 3 rfl) ?_
  refine g_calli (va_runV (As := []) (rest := [.int 0]) C.1 (cJ0_length_8abf5_ok l G (setRow (setRow X 11 (X.1 11)) 14 (X.1 14)) 13 (by decide)) (cwV 0 C.1.2.2.2.2 (gV qw_1373 qw_482 qw_483 qw_79 qw_484) rfl rfl rfl (by decide +kernel) ⟨Nat.le_of_ble_eq_true rfl, Nat.le_of_ble_eq_true rfl⟩) (g_rStr C hW hS (by decide) []) rfl rfl hl_4.1 rfl (lv_room (Nat.le_of_ble_eq_true rfl)) dX5_readArguments_8 ⟨Nat.zero_le _, Nat.zero_le _⟩) hS (fun r_7 Y_6 H_8 locs_9 hW_10 hS_11 h_5 => ?_)
  obtain ⟨h_5, hy_12⟩ := h_5
  replace hy_12 := hy_12.symm
  subst hy_12
  subst h_5
  refine g_top (y := 5) (by decide) ?_
  refine lv_icmp_ge (tgt := 76) hx hb dX5_readArguments_11 (by decide) (fun h9 => absurd h9 (by decide)) (fun _ => ?_)
  refine lv_aload_n hx hb dX5_readArguments_14 rfl (lv_at hl_4 3 rfl) ?_
  refine lv_iload hx hb dX5_readArguments_15 (lv_at hl_4 0 rfl) ?_
  refine g_calli (va_runV (As := [.int 0]) (rest := []) C.1 (cJ0_charAt_5068e_ok l G (setRow (setRow X 11 (X.1 11)) 14 (X.1 14)) 13 (by decide) 0 (by decide)) (cwV 1 C.1.2.2.2.2 (gV qw_1374 qw_1375 qw_1376 qw_79 qw_1377) rfl rfl rfl (by decide +kernel) ⟨Nat.le_of_ble_eq_true rfl, Nat.le_of_ble_eq_true rfl⟩) (g_rStr C hW_10 hS_11 (by decide) [.int 0]) rfl rfl hl_4.1 rfl (lv_room (Nat.le_of_ble_eq_true rfl)) dX5_readArguments_17 ⟨Nat.zero_le _, Nat.zero_le _⟩) hS_11 (fun r_15 Y_14 H_16 locs_17 hW_18 hS_19 h_13 => ?_)
  obtain ⟨h_13, hy_20⟩ := h_13
  replace hy_20 := hy_20.symm
  subst hy_20
  subst h_13
  refine g_top (y := 100) (by decide) ?_
  refine lv_istore (lv' := [(5, .int 100), (4, .int 0), (3, .int 0), (0, .ref (ad G 718)), (1, .ref (cy G (50 + 13))), (2, .ref (ad G (738 + k)))]) hx hb dX5_readArguments_20 hl_4 (by decide) rfl (fun ls_21 hl_22 => ?_)
  refine lv_iload hx hb dX5_readArguments_22 (lv_at hl_22 0 rfl) ?_
  refine lv_bipush (v := 32) hx hb dX5_readArguments_24 (by decide) ?_
  refine lv_icmp_ne (tgt := 40) hx hb dX5_readArguments_26 (by decide) (fun _ => ?_) (fun h9 => absurd h9 (by decide))
  refine lv_aload_n hx hb dX5_readArguments_40 rfl (lv_at hl_22 3 rfl) ?_
  refine lv_iload hx hb dX5_readArguments_41 (lv_at hl_22 0 rfl) ?_
  refine g_calli (va_runV (As := [.int 100]) (rest := []) C.1 (cX5_readValue100_ok l G (setRow (setRow X 11 (X.1 11)) 14 (X.1 14)) L P hL (by omega) ((congrFun (rd_in (by decide) rd_out) _).trans eL) ((congrFun (rd_in (by decide) rd_out) _).trans eP)) (cwV 1 C.1.2.2.2.2 (gV qw_1398 qw_1400 qw_24 qw_76 qw_1401) rfl rfl rfl (by decide +kernel) ⟨Nat.le_of_ble_eq_true rfl, Nat.le_of_ble_eq_true rfl⟩) (g_rScript C hW_18 hS_19 [.int 100]) rfl rfl hl_22.1 rfl (lv_room (Nat.le_of_ble_eq_true rfl)) dX5_readArguments_43 ⟨Nat.zero_le _, Nat.zero_le _⟩) hS_19 (fun r_24 Y_25 H_26 locs_27 hW_28 hS_29 h_23 => ?_)
  obtain ⟨h_30, h_23⟩ := h_23
  replace h_30 : r_24 = (rvV (X.1 12) L 100 P).2 := h_30
  replace h_23 : Y_25 = setRow (setRow (setRow X 11 (X.1 11)) 14 (X.1 14)) 11 (upd ((setRow (setRow X 11 (X.1 11)) 14 (X.1 14)).1 11) (6) (nI ((rvV (X.1 12) L 100 P).1))) := h_23
  obtain ⟨p_31, ep_31⟩ : ∃ Z9 : Nat, Z9 = (rvV (X.1 12) L 100 P).1 := ⟨_, rfl⟩
  rw [← ep_31] at h_23
  have bp_31 : P ≤ p_31 ∧ p_31 ≤ L := by rw [ep_31]; exact rvV_le (by omega) (by omega)
  subst h_30
  obtain ⟨w_32, ew_32⟩ : ∃ Z9, Z9 = upd (X.1 11) (6) (nI p_31) := ⟨_, rfl⟩
  have kn_33 : w_32 (5) = nI L := by rw [ew_32]; exact (kp_upd (by omega)).trans eL
  have hW_34 : Wd G (setRow (setRow X 11 w_32) 14 (X.1 14)) H_26 := Wd.cast (by rw [h_23, ew_32]; exact ((congrArg (fun Z9 => setRow (setRow (setRow X 11 (X.1 11)) 14 (X.1 14)) 11 (upd Z9 (6) (nI p_31))) (rd_in (by decide) rd_out)).trans (sr_in (by decide) sr_out))) hW_28
  have kn_35 : w_32 (6) = nI p_31 := by rw [ew_32]; exact pk_us
  refine lv_topi (fun v_36 ev_36 => ?_)
  refine lv_istore (lv' := [(6, .int v_36), (5, .int 100), (4, .int 0), (3, .int 0), (0, .ref (ad G 718)), (1, .ref (cy G (50 + 13))), (2, .ref (ad G (738 + k)))]) hx hb dX5_readArguments_46 hl_22 (by decide) rfl (fun ls_37 hl_38 => ?_)
  refine lv_iload hx hb dX5_readArguments_48 (lv_at hl_38 0 rfl) ?_
  refine lv_iconst (v := (-1)) hx hb dX5_readArguments_50 (by decide) ?_
  refine lv_icmp_eq (tgt := 60) hx hb dX5_readArguments_51 (by decide) (fun b_39 => ?_) (fun b_39 => ?_)
  · refine lv_iconst (v := 0) hx hb dX5_readArguments_60 (by decide) ?_
    exact g_zret C hr hlk hW_34 hS_29 dX5_readArguments_61 rfl (by subst ev_36; subst ew_32; subst ep_31; exact ⟨by simp only [rdP, Nat.reduceAdd, c32a, c32b, c32c, uu6, b_39, if_true, if_false]; first | done | rfl, by simp only [rdP, Nat.reduceAdd, c32a, c32b, c32c, uu6, b_39, if_true, if_false]; first | done | rfl⟩)
  · refine lv_iload_n hx hb dX5_readArguments_54 rfl (lv_at hl_38 3 rfl) ?_
    refine lv_aload_n hx hb dX5_readArguments_55 rfl (lv_at hl_38 6 rfl) ?_
    refine g_arglen C hW_34 hk dX5_readArguments_56 ?_
    refine lv_icmp_lt (tgt := 62) hx hb dX5_readArguments_57 (by decide) (fun _ => ?_) (fun h9 => absurd h9 (by decide))
    refine lv_aload_n hx hb dX5_readArguments_62 rfl (lv_at hl_38 6 rfl) ?_
    refine lv_iload_n hx hb dX5_readArguments_63 rfl (lv_at hl_38 3 rfl) ?_
    refine lv_iload hx hb dX5_readArguments_64 (lv_at hl_38 0 rfl) ?_
    refine g_argst C hW_34 hS_29 hk 0 (by decide) (vlit (by decide)) dX5_readArguments_66 (fun H_40 locs_41 hW_42 hS_43 => ?_)
    obtain ⟨w_44, ew_44⟩ : ∃ Z9, Z9 = upd (X.1 14) (3 * k + 0) v_36 := ⟨_, rfl⟩
    have hW_45 : Wd G (setRow (setRow X 11 w_32) 14 w_44) H_40 := Wd.cast (by rw [ew_44]; exact st_out) hW_42
    refine lv_iinc (v := 1) (lv' := [(3, .int 1), (6, .int v_36), (5, .int 100), (4, .int 0), (0, .ref (ad G 718)), (1, .ref (cy G (50 + 13))), (2, .ref (ad G (738 + k)))]) hx hb dX5_readArguments_67 hl_38 (k := 3) rfl (by decide) (by decide) rfl (fun ls_46 hl_47 => ?_)
    refine lv_iinc (v := 1) (lv' := [(4, .int 1), (3, .int 1), (6, .int v_36), (5, .int 100), (0, .ref (ad G 718)), (1, .ref (cy G (50 + 13))), (2, .ref (ad G (738 + k)))]) hx hb dX5_readArguments_70 hl_47 (k := 3) rfl (by decide) (by decide) rfl (fun ls_48 hl_49 => ?_)
    refine lv_goto (tgt := 5) hx hb dX5_readArguments_73 (by decide) ?_
    refine lv_iload hx hb dX5_readArguments_5 (lv_at hl_49 0 rfl) ?_
    refine lv_aload_n hx hb dX5_readArguments_7 rfl (lv_at hl_49 5 rfl) ?_
    refine g_calli (va_runV (As := []) (rest := [.int 1]) C.1 (cJ0_length_8abf5_ok l G (setRow (setRow X 11 w_32) 14 w_44) 13 (by decide)) (cwV 0 C.1.2.2.2.2 (gV qw_1373 qw_482 qw_483 qw_79 qw_484) rfl rfl rfl (by decide +kernel) ⟨Nat.le_of_ble_eq_true rfl, Nat.le_of_ble_eq_true rfl⟩) (g_rStr C hW_45 hS_43 (by decide) []) rfl rfl hl_49.1 rfl (lv_room (Nat.le_of_ble_eq_true rfl)) dX5_readArguments_8 ⟨Nat.zero_le _, Nat.zero_le _⟩) hS_43 (fun r_52 Y_51 H_53 locs_54 hW_55 hS_56 h_50 => ?_)
    obtain ⟨h_50, hy_57⟩ := h_50
    replace hy_57 := hy_57.symm
    subst hy_57
    subst h_50
    refine g_top (y := 5) (by decide) ?_
    refine lv_icmp_ge (tgt := 76) hx hb dX5_readArguments_11 (by decide) (fun h9 => absurd h9 (by decide)) (fun _ => ?_)
    refine lv_aload_n hx hb dX5_readArguments_14 rfl (lv_at hl_49 5 rfl) ?_
    refine lv_iload hx hb dX5_readArguments_15 (lv_at hl_49 0 rfl) ?_
    refine g_calli (va_runV (As := [.int 1]) (rest := []) C.1 (cJ0_charAt_5068e_ok l G (setRow (setRow X 11 w_32) 14 w_44) 13 (by decide) 1 (by decide)) (cwV 1 C.1.2.2.2.2 (gV qw_1374 qw_1375 qw_1376 qw_79 qw_1377) rfl rfl rfl (by decide +kernel) ⟨Nat.le_of_ble_eq_true rfl, Nat.le_of_ble_eq_true rfl⟩) (g_rStr C hW_55 hS_56 (by decide) [.int 1]) rfl rfl hl_49.1 rfl (lv_room (Nat.le_of_ble_eq_true rfl)) dX5_readArguments_17 ⟨Nat.zero_le _, Nat.zero_le _⟩) hS_56 (fun r_60 Y_59 H_61 locs_62 hW_63 hS_64 h_58 => ?_)
    obtain ⟨h_58, hy_65⟩ := h_58
    replace hy_65 := hy_65.symm
    subst hy_65
    subst h_58
    refine g_top (y := 32) (by decide) ?_
    refine lv_istore (lv' := [(5, .int 32), (4, .int 1), (3, .int 1), (6, .int v_36), (0, .ref (ad G 718)), (1, .ref (cy G (50 + 13))), (2, .ref (ad G (738 + k)))]) hx hb dX5_readArguments_20 hl_49 (by decide) rfl (fun ls_66 hl_67 => ?_)
    refine lv_iload hx hb dX5_readArguments_22 (lv_at hl_67 0 rfl) ?_
    refine lv_bipush (v := 32) hx hb dX5_readArguments_24 (by decide) ?_
    refine lv_icmp_ne (tgt := 40) hx hb dX5_readArguments_26 (by decide) (fun h9 => absurd h9 (by decide)) (fun _ => ?_)
    refine lv_aload_n hx hb dX5_readArguments_29 rfl (lv_at hl_67 4 rfl) ?_
    refine lv_bipush (v := 32) hx hb dX5_readArguments_30 (by decide) ?_
    refine g_calli (va_runV (As := [.int 32]) (rest := []) C.1 (cX5_readSign_ok l G (setRow (setRow X 11 w_32) 14 w_44) L p_31 hL (by omega) ((congrFun (rd_in (by decide) rd_out) _).trans kn_33) ((congrFun (rd_in (by decide) rd_out) _).trans kn_35) 32) (cwV 1 C.1.2.2.2.2 (gV qw_1394 qw_1396 qw_23 qw_76 qw_1397) rfl rfl rfl (by decide +kernel) ⟨Nat.le_of_ble_eq_true rfl, Nat.le_of_ble_eq_true rfl⟩) (g_rScript C hW_63 hS_64 [.int 32]) rfl rfl hl_67.1 rfl (lv_room (Nat.le_of_ble_eq_true rfl)) dX5_readArguments_32 ⟨Nat.zero_le _, Nat.zero_le _⟩) hS_64 (fun r_69 Y_70 H_71 locs_72 hW_73 hS_74 h_68 => ?_)
    obtain ⟨h_75, h_68⟩ := h_68
    replace h_75 : r_69 = (rsV (X.1 12) L p_31 32).2 := h_75
    replace h_68 : Y_70 = setRow (setRow (setRow X 11 w_32) 14 w_44) 11 (upd ((setRow (setRow X 11 w_32) 14 w_44).1 11) (6) (nI ((rsV (X.1 12) L p_31 32).1))) := h_68
    obtain ⟨p_76, ep_76⟩ : ∃ Z9 : Nat, Z9 = (rsV (X.1 12) L p_31 32).1 := ⟨_, rfl⟩
    rw [← ep_76] at h_68
    have bp_76 : p_31 ≤ p_76 ∧ p_76 ≤ L := by rw [ep_76]; exact rsV_le (by omega) (by omega)
    subst h_75
    obtain ⟨w_77, ew_77⟩ : ∃ Z9, Z9 = upd w_32 (6) (nI p_76) := ⟨_, rfl⟩
    have kn_78 : w_77 (5) = nI L := by rw [ew_77]; exact (kp_upd (by omega)).trans kn_33
    have hW_79 : Wd G (setRow (setRow X 11 w_77) 14 w_44) H_71 := Wd.cast (by rw [h_68, ew_77]; exact ((congrArg (fun Z9 => setRow (setRow (setRow X 11 w_32) 14 w_44) 11 (upd Z9 (6) (nI p_76))) (rd_in (by decide) rd_out)).trans (sr_in (by decide) sr_out))) hW_73
    have kn_80 : w_77 (6) = nI p_76 := by rw [ew_77]; exact pk_us
    refine lv_if_ne (tgt := 70) hx hb dX5_readArguments_35 (by decide) (fun b_81 => ?_) (fun b_81 => ?_)
    · refine lv_iinc (v := 2) (lv' := [(4, .int 2), (5, .int 32), (3, .int 1), (6, .int v_36), (0, .ref (ad G 718)), (1, .ref (cy G (50 + 13))), (2, .ref (ad G (738 + k)))]) hx hb dX5_readArguments_70 hl_67 (k := 1) rfl (by decide) (by decide) rfl (fun ls_82 hl_83 => ?_)
      refine lv_goto (tgt := 5) hx hb dX5_readArguments_73 (by decide) ?_
      refine lv_iload hx hb dX5_readArguments_5 (lv_at hl_83 0 rfl) ?_
      refine lv_aload_n hx hb dX5_readArguments_7 rfl (lv_at hl_83 5 rfl) ?_
      refine g_calli (va_runV (As := []) (rest := [.int 2]) C.1 (cJ0_length_8abf5_ok l G (setRow (setRow X 11 w_77) 14 w_44) 13 (by decide)) (cwV 0 C.1.2.2.2.2 (gV qw_1373 qw_482 qw_483 qw_79 qw_484) rfl rfl rfl (by decide +kernel) ⟨Nat.le_of_ble_eq_true rfl, Nat.le_of_ble_eq_true rfl⟩) (g_rStr C hW_79 hS_74 (by decide) []) rfl rfl hl_83.1 rfl (lv_room (Nat.le_of_ble_eq_true rfl)) dX5_readArguments_8 ⟨Nat.zero_le _, Nat.zero_le _⟩) hS_74 (fun r_86 Y_85 H_87 locs_88 hW_89 hS_90 h_84 => ?_)
      obtain ⟨h_84, hy_91⟩ := h_84
      replace hy_91 := hy_91.symm
      subst hy_91
      subst h_84
      refine g_top (y := 5) (by decide) ?_
      refine lv_icmp_ge (tgt := 76) hx hb dX5_readArguments_11 (by decide) (fun h9 => absurd h9 (by decide)) (fun _ => ?_)
      refine lv_aload_n hx hb dX5_readArguments_14 rfl (lv_at hl_83 5 rfl) ?_
      refine lv_iload hx hb dX5_readArguments_15 (lv_at hl_83 0 rfl) ?_
      refine g_calli (va_runV (As := [.int 2]) (rest := []) C.1 (cJ0_charAt_5068e_ok l G (setRow (setRow X 11 w_77) 14 w_44) 13 (by decide) 2 (by decide)) (cwV 1 C.1.2.2.2.2 (gV qw_1374 qw_1375 qw_1376 qw_79 qw_1377) rfl rfl rfl (by decide +kernel) ⟨Nat.le_of_ble_eq_true rfl, Nat.le_of_ble_eq_true rfl⟩) (g_rStr C hW_89 hS_90 (by decide) [.int 2]) rfl rfl hl_83.1 rfl (lv_room (Nat.le_of_ble_eq_true rfl)) dX5_readArguments_17 ⟨Nat.zero_le _, Nat.zero_le _⟩) hS_90 (fun r_94 Y_93 H_95 locs_96 hW_97 hS_98 h_92 => ?_)
      obtain ⟨h_92, hy_99⟩ := h_92
      replace hy_99 := hy_99.symm
      subst hy_99
      subst h_92
      refine g_top (y := 100) (by decide) ?_
      refine lv_istore (lv' := [(5, .int 100), (4, .int 2), (3, .int 1), (6, .int v_36), (0, .ref (ad G 718)), (1, .ref (cy G (50 + 13))), (2, .ref (ad G (738 + k)))]) hx hb dX5_readArguments_20 hl_83 (by decide) rfl (fun ls_100 hl_101 => ?_)
      refine lv_iload hx hb dX5_readArguments_22 (lv_at hl_101 0 rfl) ?_
      refine lv_bipush (v := 32) hx hb dX5_readArguments_24 (by decide) ?_
      refine lv_icmp_ne (tgt := 40) hx hb dX5_readArguments_26 (by decide) (fun _ => ?_) (fun h9 => absurd h9 (by decide))
      refine lv_aload_n hx hb dX5_readArguments_40 rfl (lv_at hl_101 4 rfl) ?_
      refine lv_iload hx hb dX5_readArguments_41 (lv_at hl_101 0 rfl) ?_
      refine g_calli (va_runV (As := [.int 100]) (rest := []) C.1 (cX5_readValue100_ok l G (setRow (setRow X 11 w_77) 14 w_44) L p_76 hL (by omega) ((congrFun (rd_in (by decide) rd_out) _).trans kn_78) ((congrFun (rd_in (by decide) rd_out) _).trans kn_80)) (cwV 1 C.1.2.2.2.2 (gV qw_1398 qw_1400 qw_24 qw_76 qw_1401) rfl rfl rfl (by decide +kernel) ⟨Nat.le_of_ble_eq_true rfl, Nat.le_of_ble_eq_true rfl⟩) (g_rScript C hW_97 hS_98 [.int 100]) rfl rfl hl_101.1 rfl (lv_room (Nat.le_of_ble_eq_true rfl)) dX5_readArguments_43 ⟨Nat.zero_le _, Nat.zero_le _⟩) hS_98 (fun r_103 Y_104 H_105 locs_106 hW_107 hS_108 h_102 => ?_)
      obtain ⟨h_109, h_102⟩ := h_102
      replace h_109 : r_103 = (rvV (X.1 12) L 100 p_76).2 := h_109
      replace h_102 : Y_104 = setRow (setRow (setRow X 11 w_77) 14 w_44) 11 (upd ((setRow (setRow X 11 w_77) 14 w_44).1 11) (6) (nI ((rvV (X.1 12) L 100 p_76).1))) := h_102
      obtain ⟨p_110, ep_110⟩ : ∃ Z9 : Nat, Z9 = (rvV (X.1 12) L 100 p_76).1 := ⟨_, rfl⟩
      rw [← ep_110] at h_102
      have bp_110 : p_76 ≤ p_110 ∧ p_110 ≤ L := by rw [ep_110]; exact rvV_le (by omega) (by omega)
      subst h_109
      obtain ⟨w_111, ew_111⟩ : ∃ Z9, Z9 = upd w_77 (6) (nI p_110) := ⟨_, rfl⟩
      have kn_112 : w_111 (5) = nI L := by rw [ew_111]; exact (kp_upd (by omega)).trans kn_78
      have hW_113 : Wd G (setRow (setRow X 11 w_111) 14 w_44) H_105 := Wd.cast (by rw [h_102, ew_111]; exact ((congrArg (fun Z9 => setRow (setRow (setRow X 11 w_77) 14 w_44) 11 (upd Z9 (6) (nI p_110))) (rd_in (by decide) rd_out)).trans (sr_in (by decide) sr_out))) hW_107
      have kn_114 : w_111 (6) = nI p_110 := by rw [ew_111]; exact pk_us
      refine lv_topi (fun v_115 ev_115 => ?_)
      refine lv_istore (lv' := [(6, .int v_115), (5, .int 100), (4, .int 2), (3, .int 1), (0, .ref (ad G 718)), (1, .ref (cy G (50 + 13))), (2, .ref (ad G (738 + k)))]) hx hb dX5_readArguments_46 hl_101 (by decide) rfl (fun ls_116 hl_117 => ?_)
      refine lv_iload hx hb dX5_readArguments_48 (lv_at hl_117 0 rfl) ?_
      refine lv_iconst (v := (-1)) hx hb dX5_readArguments_50 (by decide) ?_
      refine lv_icmp_eq (tgt := 60) hx hb dX5_readArguments_51 (by decide) (fun b_118 => ?_) (fun b_118 => ?_)
      · refine lv_iconst (v := 0) hx hb dX5_readArguments_60 (by decide) ?_
        exact g_zret C hr hlk hW_113 hS_108 dX5_readArguments_61 rfl (by subst ev_115; subst ew_111; subst ep_110; subst ew_77; subst ep_76; subst ew_44; subst ev_36; subst ew_32; subst ep_31; exact ⟨by simp only [rdP, Nat.reduceAdd, c32a, c32b, c32c, uu6, b_39, b_81, b_118, if_true, if_false]; first | done | rfl, by simp only [rdP, Nat.reduceAdd, c32a, c32b, c32c, uu6, b_39, b_81, b_118, if_true, if_false]; first | done | rfl⟩)
      · refine lv_iload_n hx hb dX5_readArguments_54 rfl (lv_at hl_117 3 rfl) ?_
        refine lv_aload_n hx hb dX5_readArguments_55 rfl (lv_at hl_117 6 rfl) ?_
        refine g_arglen C hW_113 hk dX5_readArguments_56 ?_
        refine lv_icmp_lt (tgt := 62) hx hb dX5_readArguments_57 (by decide) (fun _ => ?_) (fun h9 => absurd h9 (by decide))
        refine lv_aload_n hx hb dX5_readArguments_62 rfl (lv_at hl_117 6 rfl) ?_
        refine lv_iload_n hx hb dX5_readArguments_63 rfl (lv_at hl_117 3 rfl) ?_
        refine lv_iload hx hb dX5_readArguments_64 (lv_at hl_117 0 rfl) ?_
        refine g_argst C hW_113 hS_108 hk 1 (by decide) (vlit (by decide)) dX5_readArguments_66 (fun H_119 locs_120 hW_121 hS_122 => ?_)
        obtain ⟨w_123, ew_123⟩ : ∃ Z9, Z9 = upd w_44 (3 * k + 1) v_115 := ⟨_, rfl⟩
        have hW_124 : Wd G (setRow (setRow X 11 w_111) 14 w_123) H_119 := Wd.cast (by rw [ew_123]; exact st_out) hW_121
        refine lv_iinc (v := 2) (lv' := [(3, .int 2), (6, .int v_115), (5, .int 100), (4, .int 2), (0, .ref (ad G 718)), (1, .ref (cy G (50 + 13))), (2, .ref (ad G (738 + k)))]) hx hb dX5_readArguments_67 hl_117 (k := 3) rfl (by decide) (by decide) rfl (fun ls_125 hl_126 => ?_)
        refine lv_iinc (v := 3) (lv' := [(4, .int 3), (3, .int 2), (6, .int v_115), (5, .int 100), (0, .ref (ad G 718)), (1, .ref (cy G (50 + 13))), (2, .ref (ad G (738 + k)))]) hx hb dX5_readArguments_70 hl_126 (k := 3) rfl (by decide) (by decide) rfl (fun ls_127 hl_128 => ?_)
        refine lv_goto (tgt := 5) hx hb dX5_readArguments_73 (by decide) ?_
        refine lv_iload hx hb dX5_readArguments_5 (lv_at hl_128 0 rfl) ?_
        refine lv_aload_n hx hb dX5_readArguments_7 rfl (lv_at hl_128 5 rfl) ?_
        refine g_calli (va_runV (As := []) (rest := [.int 3]) C.1 (cJ0_length_8abf5_ok l G (setRow (setRow X 11 w_111) 14 w_123) 13 (by decide)) (cwV 0 C.1.2.2.2.2 (gV qw_1373 qw_482 qw_483 qw_79 qw_484) rfl rfl rfl (by decide +kernel) ⟨Nat.le_of_ble_eq_true rfl, Nat.le_of_ble_eq_true rfl⟩) (g_rStr C hW_124 hS_122 (by decide) []) rfl rfl hl_128.1 rfl (lv_room (Nat.le_of_ble_eq_true rfl)) dX5_readArguments_8 ⟨Nat.zero_le _, Nat.zero_le _⟩) hS_122 (fun r_131 Y_130 H_132 locs_133 hW_134 hS_135 h_129 => ?_)
        obtain ⟨h_129, hy_136⟩ := h_129
        replace hy_136 := hy_136.symm
        subst hy_136
        subst h_129
        refine g_top (y := 5) (by decide) ?_
        refine lv_icmp_ge (tgt := 76) hx hb dX5_readArguments_11 (by decide) (fun h9 => absurd h9 (by decide)) (fun _ => ?_)
        refine lv_aload_n hx hb dX5_readArguments_14 rfl (lv_at hl_128 5 rfl) ?_
        refine lv_iload hx hb dX5_readArguments_15 (lv_at hl_128 0 rfl) ?_
        refine g_calli (va_runV (As := [.int 3]) (rest := []) C.1 (cJ0_charAt_5068e_ok l G (setRow (setRow X 11 w_111) 14 w_123) 13 (by decide) 3 (by decide)) (cwV 1 C.1.2.2.2.2 (gV qw_1374 qw_1375 qw_1376 qw_79 qw_1377) rfl rfl rfl (by decide +kernel) ⟨Nat.le_of_ble_eq_true rfl, Nat.le_of_ble_eq_true rfl⟩) (g_rStr C hW_134 hS_135 (by decide) [.int 3]) rfl rfl hl_128.1 rfl (lv_room (Nat.le_of_ble_eq_true rfl)) dX5_readArguments_17 ⟨Nat.zero_le _, Nat.zero_le _⟩) hS_135 (fun r_139 Y_138 H_140 locs_141 hW_142 hS_143 h_137 => ?_)
        obtain ⟨h_137, hy_144⟩ := h_137
        replace hy_144 := hy_144.symm
        subst hy_144
        subst h_137
        refine g_top (y := 32) (by decide) ?_
        refine lv_istore (lv' := [(5, .int 32), (4, .int 3), (3, .int 2), (6, .int v_115), (0, .ref (ad G 718)), (1, .ref (cy G (50 + 13))), (2, .ref (ad G (738 + k)))]) hx hb dX5_readArguments_20 hl_128 (by decide) rfl (fun ls_145 hl_146 => ?_)
        refine lv_iload hx hb dX5_readArguments_22 (lv_at hl_146 0 rfl) ?_
        refine lv_bipush (v := 32) hx hb dX5_readArguments_24 (by decide) ?_
        refine lv_icmp_ne (tgt := 40) hx hb dX5_readArguments_26 (by decide) (fun h9 => absurd h9 (by decide)) (fun _ => ?_)
        refine lv_aload_n hx hb dX5_readArguments_29 rfl (lv_at hl_146 4 rfl) ?_
        refine lv_bipush (v := 32) hx hb dX5_readArguments_30 (by decide) ?_
        refine g_calli (va_runV (As := [.int 32]) (rest := []) C.1 (cX5_readSign_ok l G (setRow (setRow X 11 w_111) 14 w_123) L p_110 hL (by omega) ((congrFun (rd_in (by decide) rd_out) _).trans kn_112) ((congrFun (rd_in (by decide) rd_out) _).trans kn_114) 32) (cwV 1 C.1.2.2.2.2 (gV qw_1394 qw_1396 qw_23 qw_76 qw_1397) rfl rfl rfl (by decide +kernel) ⟨Nat.le_of_ble_eq_true rfl, Nat.le_of_ble_eq_true rfl⟩) (g_rScript C hW_142 hS_143 [.int 32]) rfl rfl hl_146.1 rfl (lv_room (Nat.le_of_ble_eq_true rfl)) dX5_readArguments_32 ⟨Nat.zero_le _, Nat.zero_le _⟩) hS_143 (fun r_148 Y_149 H_150 locs_151 hW_152 hS_153 h_147 => ?_)
        obtain ⟨h_154, h_147⟩ := h_147
        replace h_154 : r_148 = (rsV (X.1 12) L p_110 32).2 := h_154
        replace h_147 : Y_149 = setRow (setRow (setRow X 11 w_111) 14 w_123) 11 (upd ((setRow (setRow X 11 w_111) 14 w_123).1 11) (6) (nI ((rsV (X.1 12) L p_110 32).1))) := h_147
        obtain ⟨p_155, ep_155⟩ : ∃ Z9 : Nat, Z9 = (rsV (X.1 12) L p_110 32).1 := ⟨_, rfl⟩
        rw [← ep_155] at h_147
        have bp_155 : p_110 ≤ p_155 ∧ p_155 ≤ L := by rw [ep_155]; exact rsV_le (by omega) (by omega)
        subst h_154
        obtain ⟨w_156, ew_156⟩ : ∃ Z9, Z9 = upd w_111 (6) (nI p_155) := ⟨_, rfl⟩
        have kn_157 : w_156 (5) = nI L := by rw [ew_156]; exact (kp_upd (by omega)).trans kn_112
        have hW_158 : Wd G (setRow (setRow X 11 w_156) 14 w_123) H_150 := Wd.cast (by rw [h_147, ew_156]; exact ((congrArg (fun Z9 => setRow (setRow (setRow X 11 w_111) 14 w_123) 11 (upd Z9 (6) (nI p_155))) (rd_in (by decide) rd_out)).trans (sr_in (by decide) sr_out))) hW_152
        have kn_159 : w_156 (6) = nI p_155 := by rw [ew_156]; exact pk_us
        refine lv_if_ne (tgt := 70) hx hb dX5_readArguments_35 (by decide) (fun b_160 => ?_) (fun b_160 => ?_)
        · refine lv_iinc (v := 4) (lv' := [(4, .int 4), (5, .int 32), (3, .int 2), (6, .int v_115), (0, .ref (ad G 718)), (1, .ref (cy G (50 + 13))), (2, .ref (ad G (738 + k)))]) hx hb dX5_readArguments_70 hl_146 (k := 1) rfl (by decide) (by decide) rfl (fun ls_161 hl_162 => ?_)
          refine lv_goto (tgt := 5) hx hb dX5_readArguments_73 (by decide) ?_
          refine lv_iload hx hb dX5_readArguments_5 (lv_at hl_162 0 rfl) ?_
          refine lv_aload_n hx hb dX5_readArguments_7 rfl (lv_at hl_162 5 rfl) ?_
          refine g_calli (va_runV (As := []) (rest := [.int 4]) C.1 (cJ0_length_8abf5_ok l G (setRow (setRow X 11 w_156) 14 w_123) 13 (by decide)) (cwV 0 C.1.2.2.2.2 (gV qw_1373 qw_482 qw_483 qw_79 qw_484) rfl rfl rfl (by decide +kernel) ⟨Nat.le_of_ble_eq_true rfl, Nat.le_of_ble_eq_true rfl⟩) (g_rStr C hW_158 hS_153 (by decide) []) rfl rfl hl_162.1 rfl (lv_room (Nat.le_of_ble_eq_true rfl)) dX5_readArguments_8 ⟨Nat.zero_le _, Nat.zero_le _⟩) hS_153 (fun r_165 Y_164 H_166 locs_167 hW_168 hS_169 h_163 => ?_)
          obtain ⟨h_163, hy_170⟩ := h_163
          replace hy_170 := hy_170.symm
          subst hy_170
          subst h_163
          refine g_top (y := 5) (by decide) ?_
          refine lv_icmp_ge (tgt := 76) hx hb dX5_readArguments_11 (by decide) (fun h9 => absurd h9 (by decide)) (fun _ => ?_)
          refine lv_aload_n hx hb dX5_readArguments_14 rfl (lv_at hl_162 5 rfl) ?_
          refine lv_iload hx hb dX5_readArguments_15 (lv_at hl_162 0 rfl) ?_
          refine g_calli (va_runV (As := [.int 4]) (rest := []) C.1 (cJ0_charAt_5068e_ok l G (setRow (setRow X 11 w_156) 14 w_123) 13 (by decide) 4 (by decide)) (cwV 1 C.1.2.2.2.2 (gV qw_1374 qw_1375 qw_1376 qw_79 qw_1377) rfl rfl rfl (by decide +kernel) ⟨Nat.le_of_ble_eq_true rfl, Nat.le_of_ble_eq_true rfl⟩) (g_rStr C hW_168 hS_169 (by decide) [.int 4]) rfl rfl hl_162.1 rfl (lv_room (Nat.le_of_ble_eq_true rfl)) dX5_readArguments_17 ⟨Nat.zero_le _, Nat.zero_le _⟩) hS_169 (fun r_173 Y_172 H_174 locs_175 hW_176 hS_177 h_171 => ?_)
          obtain ⟨h_171, hy_178⟩ := h_171
          replace hy_178 := hy_178.symm
          subst hy_178
          subst h_171
          refine g_top (y := 110) (by decide) ?_
          refine lv_istore (lv' := [(5, .int 110), (4, .int 4), (3, .int 2), (6, .int v_115), (0, .ref (ad G 718)), (1, .ref (cy G (50 + 13))), (2, .ref (ad G (738 + k)))]) hx hb dX5_readArguments_20 hl_162 (by decide) rfl (fun ls_179 hl_180 => ?_)
          refine lv_iload hx hb dX5_readArguments_22 (lv_at hl_180 0 rfl) ?_
          refine lv_bipush (v := 32) hx hb dX5_readArguments_24 (by decide) ?_
          refine lv_icmp_ne (tgt := 40) hx hb dX5_readArguments_26 (by decide) (fun _ => ?_) (fun h9 => absurd h9 (by decide))
          refine lv_aload_n hx hb dX5_readArguments_40 rfl (lv_at hl_180 4 rfl) ?_
          refine lv_iload hx hb dX5_readArguments_41 (lv_at hl_180 0 rfl) ?_
          refine g_calli (va_runV (As := [.int 110]) (rest := []) C.1 (cX5_readValue110_ok l G (setRow (setRow X 11 w_156) 14 w_123) L p_155 hL (by omega) ((congrFun (rd_in (by decide) rd_out) _).trans kn_157) ((congrFun (rd_in (by decide) rd_out) _).trans kn_159)) (cwV 1 C.1.2.2.2.2 (gV qw_1398 qw_1400 qw_24 qw_76 qw_1401) rfl rfl rfl (by decide +kernel) ⟨Nat.le_of_ble_eq_true rfl, Nat.le_of_ble_eq_true rfl⟩) (g_rScript C hW_176 hS_177 [.int 110]) rfl rfl hl_180.1 rfl (lv_room (Nat.le_of_ble_eq_true rfl)) dX5_readArguments_43 ⟨Nat.zero_le _, Nat.zero_le _⟩) hS_177 (fun r_182 Y_183 H_184 locs_185 hW_186 hS_187 h_181 => ?_)
          obtain ⟨h_188, h_181⟩ := h_181
          replace h_188 : r_182 = (rvV (X.1 12) L 110 p_155).2 := h_188
          replace h_181 : Y_183 = setRow (setRow (setRow X 11 w_156) 14 w_123) 11 (upd ((setRow (setRow X 11 w_156) 14 w_123).1 11) (6) (nI ((rvV (X.1 12) L 110 p_155).1))) := h_181
          obtain ⟨p_189, ep_189⟩ : ∃ Z9 : Nat, Z9 = (rvV (X.1 12) L 110 p_155).1 := ⟨_, rfl⟩
          rw [← ep_189] at h_181
          have bp_189 : p_155 ≤ p_189 ∧ p_189 ≤ L := by rw [ep_189]; exact rvV_le (by omega) (by omega)
          subst h_188
          obtain ⟨w_190, ew_190⟩ : ∃ Z9, Z9 = upd w_156 (6) (nI p_189) := ⟨_, rfl⟩
          have kn_191 : w_190 (5) = nI L := by rw [ew_190]; exact (kp_upd (by omega)).trans kn_157
          have hW_192 : Wd G (setRow (setRow X 11 w_190) 14 w_123) H_184 := Wd.cast (by rw [h_181, ew_190]; exact ((congrArg (fun Z9 => setRow (setRow (setRow X 11 w_156) 14 w_123) 11 (upd Z9 (6) (nI p_189))) (rd_in (by decide) rd_out)).trans (sr_in (by decide) sr_out))) hW_186
          have kn_193 : w_190 (6) = nI p_189 := by rw [ew_190]; exact pk_us
          refine lv_topi (fun v_194 ev_194 => ?_)
          refine lv_istore (lv' := [(6, .int v_194), (5, .int 110), (4, .int 4), (3, .int 2), (0, .ref (ad G 718)), (1, .ref (cy G (50 + 13))), (2, .ref (ad G (738 + k)))]) hx hb dX5_readArguments_46 hl_180 (by decide) rfl (fun ls_195 hl_196 => ?_)
          refine lv_iload hx hb dX5_readArguments_48 (lv_at hl_196 0 rfl) ?_
          refine lv_iconst (v := (-1)) hx hb dX5_readArguments_50 (by decide) ?_
          refine lv_icmp_eq (tgt := 60) hx hb dX5_readArguments_51 (by decide) (fun b_197 => ?_) (fun b_197 => ?_)
          · refine lv_iconst (v := 0) hx hb dX5_readArguments_60 (by decide) ?_
            exact g_zret C hr hlk hW_192 hS_187 dX5_readArguments_61 rfl (by subst ev_194; subst ew_190; subst ep_189; subst ew_156; subst ep_155; subst ew_123; subst ev_115; subst ew_111; subst ep_110; subst ew_77; subst ep_76; subst ew_44; subst ev_36; subst ew_32; subst ep_31; exact ⟨by simp only [rdP, Nat.reduceAdd, c32a, c32b, c32c, uu6, b_39, b_81, b_118, b_160, b_197, if_true, if_false]; first | done | rfl, by simp only [rdP, Nat.reduceAdd, c32a, c32b, c32c, uu6, b_39, b_81, b_118, b_160, b_197, if_true, if_false]; first | done | rfl⟩)
          · refine lv_iload_n hx hb dX5_readArguments_54 rfl (lv_at hl_196 3 rfl) ?_
            refine lv_aload_n hx hb dX5_readArguments_55 rfl (lv_at hl_196 6 rfl) ?_
            refine g_arglen C hW_192 hk dX5_readArguments_56 ?_
            refine lv_icmp_lt (tgt := 62) hx hb dX5_readArguments_57 (by decide) (fun _ => ?_) (fun h9 => absurd h9 (by decide))
            refine lv_aload_n hx hb dX5_readArguments_62 rfl (lv_at hl_196 6 rfl) ?_
            refine lv_iload_n hx hb dX5_readArguments_63 rfl (lv_at hl_196 3 rfl) ?_
            refine lv_iload hx hb dX5_readArguments_64 (lv_at hl_196 0 rfl) ?_
            refine g_argst C hW_192 hS_187 hk 2 (by decide) (vlit (by decide)) dX5_readArguments_66 (fun H_198 locs_199 hW_200 hS_201 => ?_)
            obtain ⟨w_202, ew_202⟩ : ∃ Z9, Z9 = upd w_123 (3 * k + 2) v_194 := ⟨_, rfl⟩
            have hW_203 : Wd G (setRow (setRow X 11 w_190) 14 w_202) H_198 := Wd.cast (by rw [ew_202]; exact st_out) hW_200
            refine lv_iinc (v := 3) (lv' := [(3, .int 3), (6, .int v_194), (5, .int 110), (4, .int 4), (0, .ref (ad G 718)), (1, .ref (cy G (50 + 13))), (2, .ref (ad G (738 + k)))]) hx hb dX5_readArguments_67 hl_196 (k := 3) rfl (by decide) (by decide) rfl (fun ls_204 hl_205 => ?_)
            refine lv_iinc (v := 5) (lv' := [(4, .int 5), (3, .int 3), (6, .int v_194), (5, .int 110), (0, .ref (ad G 718)), (1, .ref (cy G (50 + 13))), (2, .ref (ad G (738 + k)))]) hx hb dX5_readArguments_70 hl_205 (k := 3) rfl (by decide) (by decide) rfl (fun ls_206 hl_207 => ?_)
            refine lv_goto (tgt := 5) hx hb dX5_readArguments_73 (by decide) ?_
            refine lv_iload hx hb dX5_readArguments_5 (lv_at hl_207 0 rfl) ?_
            refine lv_aload_n hx hb dX5_readArguments_7 rfl (lv_at hl_207 5 rfl) ?_
            refine g_calli (va_runV (As := []) (rest := [.int 5]) C.1 (cJ0_length_8abf5_ok l G (setRow (setRow X 11 w_190) 14 w_202) 13 (by decide)) (cwV 0 C.1.2.2.2.2 (gV qw_1373 qw_482 qw_483 qw_79 qw_484) rfl rfl rfl (by decide +kernel) ⟨Nat.le_of_ble_eq_true rfl, Nat.le_of_ble_eq_true rfl⟩) (g_rStr C hW_203 hS_201 (by decide) []) rfl rfl hl_207.1 rfl (lv_room (Nat.le_of_ble_eq_true rfl)) dX5_readArguments_8 ⟨Nat.zero_le _, Nat.zero_le _⟩) hS_201 (fun r_210 Y_209 H_211 locs_212 hW_213 hS_214 h_208 => ?_)
            obtain ⟨h_208, hy_215⟩ := h_208
            replace hy_215 := hy_215.symm
            subst hy_215
            subst h_208
            refine g_top (y := 5) (by decide) ?_
            refine lv_icmp_ge (tgt := 76) hx hb dX5_readArguments_11 (by decide) (fun _ => ?_) (fun h9 => absurd h9 (by decide))
            refine lv_iconst (v := 1) hx hb dX5_readArguments_76 (by decide) ?_
            exact g_zret C hr hlk hW_213 hS_214 dX5_readArguments_77 rfl (by subst ew_202; subst ev_194; subst ew_190; subst ep_189; subst ew_156; subst ep_155; subst ew_123; subst ev_115; subst ew_111; subst ep_110; subst ew_77; subst ep_76; subst ew_44; subst ev_36; subst ew_32; subst ep_31; exact ⟨by simp only [rdP, Nat.reduceAdd, c32a, c32b, c32c, uu6, b_39, b_81, b_118, b_160, b_197, if_true, if_false]; first | done | rfl, by simp only [rdP, Nat.reduceAdd, c32a, c32b, c32c, uu6, b_39, b_81, b_118, b_160, b_197, if_true, if_false]; first | done | rfl⟩)
        · refine lv_iconst (v := 0) hx hb dX5_readArguments_38 (by decide) ?_
          exact g_zret C hr hlk hW_158 hS_153 dX5_readArguments_39 rfl (by subst ew_156; subst ep_155; subst ew_123; subst ev_115; subst ew_111; subst ep_110; subst ew_77; subst ep_76; subst ew_44; subst ev_36; subst ew_32; subst ep_31; exact ⟨by simp only [rdP, Nat.reduceAdd, c32a, c32b, c32c, uu6, b_39, b_81, b_118, b_160, if_true, if_false]; first | done | rfl, by simp only [rdP, Nat.reduceAdd, c32a, c32b, c32c, uu6, b_39, b_81, b_118, b_160, if_true, if_false]; first | done | rfl⟩)
    · refine lv_iconst (v := 0) hx hb dX5_readArguments_38 (by decide) ?_
      exact g_zret C hr hlk hW_79 hS_74 dX5_readArguments_39 rfl (by subst ew_77; subst ep_76; subst ew_44; subst ev_36; subst ew_32; subst ep_31; exact ⟨by simp only [rdP, Nat.reduceAdd, c32a, c32b, c32c, uu6, b_39, b_81, if_true, if_false]; first | done | rfl, by simp only [rdP, Nat.reduceAdd, c32a, c32b, c32c, uu6, b_39, b_81, if_true, if_false]; first | done | rfl⟩)

set_option maxHeartbeats 4000000 in
set_option maxRecDepth 100000 in
theorem cX5_readArguments14_ok (l : Launch) (G : GT) (X : St) (L P : Nat) (hL : L ≤ 60) (hP : P ≤ L) (eL : X.1 11 5 = nI L) (eP : X.1 11 6 = nI P) (k : Nat) (hk : k < 60) : MetI l G yX5_readArguments (wsG yX5_readArguments cX5_readArguments 7 (some .boolean)) (rmz 4 85) [.ref (ad G 718), .ref (cy G (50 + 14)), .ref (ad G (738 + k))] X (fun res Y => res = (rdP (X.1 12) L k [110] 0 P (X.1 14)).1 ∧ Y = setRow (setRow X 11 (upd (X.1 11) (6) (nI (rdP (X.1 12) L k [110] 0 P (X.1 14)).2.1))) 14 (rdP (X.1 12) L k [110] 0 P (X.1 14)).2.2) := by
  refine g_met (cc := cX5_readArguments) (maxL := 7) (ret := (some .boolean)) (by decide) rfl (Nat.le_of_ble_eq_true rfl) ?_
  intro p e s m below meth c ls C hr hlk hnm hW hl
  have hx := C.1.1
  have hb := C.1.2.1
  have hS : va_S (Ab G) s.heap s.heap [] := va_S.rf
  have hl : lv_has ls 7 [(0, .ref (ad G 718)), (1, .ref (cy G (50 + 14))), (2, .ref (ad G (738 + k)))] := hl
  have hW : Wd G (setRow (setRow X 11 (X.1 11)) 14 (X.1 14)) s.heap := Wd.cast (((sr_same (X := setRow X 11 (X.1 11)) rfl).trans (sr_same (X := X) rfl)).symm) hW
  refine lv_iconst (v := 0) hx hb dX5_readArguments_0 (by decide) ?_
  refine lv_istore_n (lv' := [(3, .int 0), (0, .ref (ad G 718)), (1, .ref (cy G (50 + 14))), (2, .ref (ad G (738 + k)))]) hx hb dX5_readArguments_1 rfl hl (by decide) rfl (fun ls_1 hl_2 => ?_)
  refine lv_iconst (v := 0) hx hb dX5_readArguments_2 (by decide) ?_
  refine lv_istore (lv' := [(4, .int 0), (3, .int 0), (0, .ref (ad G 718)), (1, .ref (cy G (50 + 14))), (2, .ref (ad G (738 + k)))]) hx hb dX5_readArguments_3 hl_2 (by decide) rfl (fun ls_3 hl_4 => ?_)
  refine lv_iload hx hb dX5_readArguments_5 (lv_at hl_4 0 rfl) ?_
  refine lv_aload_n hx hb dX5_readArguments_7 rfl (lv_at hl_4 3 rfl) ?_
  refine g_calli (va_runV (As := []) (rest := [.int 0]) C.1 (cJ0_length_8abf5_ok l G (setRow (setRow X 11 (X.1 11)) 14 (X.1 14)) 14 (by decide)) (cwV 0 C.1.2.2.2.2 (gV qw_1373 qw_482 qw_483 qw_79 qw_484) rfl rfl rfl (by decide +kernel) ⟨Nat.le_of_ble_eq_true rfl, Nat.le_of_ble_eq_true rfl⟩) (g_rStr C hW hS (by decide) []) rfl rfl hl_4.1 rfl (lv_room (Nat.le_of_ble_eq_true rfl)) dX5_readArguments_8 ⟨Nat.zero_le _, Nat.zero_le _⟩) hS (fun r_7 Y_6 H_8 locs_9 hW_10 hS_11 h_5 => ?_)
  obtain ⟨h_5, hy_12⟩ := h_5
  replace hy_12 := hy_12.symm
  subst hy_12
  subst h_5
  refine g_top (y := 1) (by decide) ?_
  refine lv_icmp_ge (tgt := 76) hx hb dX5_readArguments_11 (by decide) (fun h9 => absurd h9 (by decide)) (fun _ => ?_)
  refine lv_aload_n hx hb dX5_readArguments_14 rfl (lv_at hl_4 3 rfl) ?_
  refine lv_iload hx hb dX5_readArguments_15 (lv_at hl_4 0 rfl) ?_
  refine g_calli (va_runV (As := [.int 0]) (rest := []) C.1 (cJ0_charAt_5068e_ok l G (setRow (setRow X 11 (X.1 11)) 14 (X.1 14)) 14 (by decide) 0 (by decide)) (cwV 1 C.1.2.2.2.2 (gV qw_1374 qw_1375 qw_1376 qw_79 qw_1377) rfl rfl rfl (by decide +kernel) ⟨Nat.le_of_ble_eq_true rfl, Nat.le_of_ble_eq_true rfl⟩) (g_rStr C hW_10 hS_11 (by decide) [.int 0]) rfl rfl hl_4.1 rfl (lv_room (Nat.le_of_ble_eq_true rfl)) dX5_readArguments_17 ⟨Nat.zero_le _, Nat.zero_le _⟩) hS_11 (fun r_15 Y_14 H_16 locs_17 hW_18 hS_19 h_13 => ?_)
  obtain ⟨h_13, hy_20⟩ := h_13
  replace hy_20 := hy_20.symm
  subst hy_20
  subst h_13
  refine g_top (y := 110) (by decide) ?_
  refine lv_istore (lv' := [(5, .int 110), (4, .int 0), (3, .int 0), (0, .ref (ad G 718)), (1, .ref (cy G (50 + 14))), (2, .ref (ad G (738 + k)))]) hx hb dX5_readArguments_20 hl_4 (by decide) rfl (fun ls_21 hl_22 => ?_)
  refine lv_iload hx hb dX5_readArguments_22 (lv_at hl_22 0 rfl) ?_
  refine lv_bipush (v := 32) hx hb dX5_readArguments_24 (by decide) ?_
  refine lv_icmp_ne (tgt := 40) hx hb dX5_readArguments_26 (by decide) (fun _ => ?_) (fun h9 => absurd h9 (by decide))
  refine lv_aload_n hx hb dX5_readArguments_40 rfl (lv_at hl_22 3 rfl) ?_
  refine lv_iload hx hb dX5_readArguments_41 (lv_at hl_22 0 rfl) ?_
  refine g_calli (va_runV (As := [.int 110]) (rest := []) C.1 (cX5_readValue110_ok l G (setRow (setRow X 11 (X.1 11)) 14 (X.1 14)) L P hL (by omega) ((congrFun (rd_in (by decide) rd_out) _).trans eL) ((congrFun (rd_in (by decide) rd_out) _).trans eP)) (cwV 1 C.1.2.2.2.2 (gV qw_1398 qw_1400 qw_24 qw_76 qw_1401) rfl rfl rfl (by decide +kernel) ⟨Nat.le_of_ble_eq_true rfl, Nat.le_of_ble_eq_true rfl⟩) (g_rScript C hW_18 hS_19 [.int 110]) rfl rfl hl_22.1 rfl (lv_room (Nat.le_of_ble_eq_true rfl)) dX5_readArguments_43 ⟨Nat.zero_le _, Nat.zero_le _⟩) hS_19 (fun r_24 Y_25 H_26 locs_27 hW_28 hS_29 h_23 => ?_)
  obtain ⟨h_30, h_23⟩ := h_23
  replace h_30 : r_24 = (rvV (X.1 12) L 110 P).2 := h_30
  replace h_23 : Y_25 = setRow (setRow (setRow X 11 (X.1 11)) 14 (X.1 14)) 11 (upd ((setRow (setRow X 11 (X.1 11)) 14 (X.1 14)).1 11) (6) (nI ((rvV (X.1 12) L 110 P).1))) := h_23
  obtain ⟨p_31, ep_31⟩ : ∃ Z9 : Nat, Z9 = (rvV (X.1 12) L 110 P).1 := ⟨_, rfl⟩
  rw [← ep_31] at h_23
  have bp_31 : P ≤ p_31 ∧ p_31 ≤ L := by rw [ep_31]; exact rvV_le (by omega) (by omega)
  subst h_30
  obtain ⟨w_32, ew_32⟩ : ∃ Z9, Z9 = upd (X.1 11) (6) (nI p_31) := ⟨_, rfl⟩
  have kn_33 : w_32 (5) = nI L := by rw [ew_32]; exact (kp_upd (by omega)).trans eL
  have hW_34 : Wd G (setRow (setRow X 11 w_32) 14 (X.1 14)) H_26 := Wd.cast (by rw [h_23, ew_32]; exact ((congrArg (fun Z9 => setRow (setRow (setRow X 11 (X.1 11)) 14 (X.1 14)) 11 (upd Z9 (6) (nI p_31))) (rd_in (by decide) rd_out)).trans (sr_in (by decide) sr_out))) hW_28
  have kn_35 : w_32 (6) = nI p_31 := by rw [ew_32]; exact pk_us
  refine lv_topi (fun v_36 ev_36 => ?_)
  refine lv_istore (lv' := [(6, .int v_36), (5, .int 110), (4, .int 0), (3, .int 0), (0, .ref (ad G 718)), (1, .ref (cy G (50 + 14))), (2, .ref (ad G (738 + k)))]) hx hb dX5_readArguments_46 hl_22 (by decide) rfl (fun ls_37 hl_38 => ?_)
  refine lv_iload hx hb dX5_readArguments_48 (lv_at hl_38 0 rfl) ?_
  refine lv_iconst (v := (-1)) hx hb dX5_readArguments_50 (by decide) ?_
  refine lv_icmp_eq (tgt := 60) hx hb dX5_readArguments_51 (by decide) (fun b_39 => ?_) (fun b_39 => ?_)
  · refine lv_iconst (v := 0) hx hb dX5_readArguments_60 (by decide) ?_
    exact g_zret C hr hlk hW_34 hS_29 dX5_readArguments_61 rfl (by subst ev_36; subst ew_32; subst ep_31; exact ⟨by simp only [rdP, Nat.reduceAdd, c32a, c32b, c32c, uu6, b_39, if_true, if_false]; first | done | rfl, by simp only [rdP, Nat.reduceAdd, c32a, c32b, c32c, uu6, b_39, if_true, if_false]; first | done | rfl⟩)
  · refine lv_iload_n hx hb dX5_readArguments_54 rfl (lv_at hl_38 3 rfl) ?_
    refine lv_aload_n hx hb dX5_readArguments_55 rfl (lv_at hl_38 6 rfl) ?_
    refine g_arglen C hW_34 hk dX5_readArguments_56 ?_
    refine lv_icmp_lt (tgt := 62) hx hb dX5_readArguments_57 (by decide) (fun _ => ?_) (fun h9 => absurd h9 (by decide))
    refine lv_aload_n hx hb dX5_readArguments_62 rfl (lv_at hl_38 6 rfl) ?_
    refine lv_iload_n hx hb dX5_readArguments_63 rfl (lv_at hl_38 3 rfl) ?_
    refine lv_iload hx hb dX5_readArguments_64 (lv_at hl_38 0 rfl) ?_
    refine g_argst C hW_34 hS_29 hk 0 (by decide) (vlit (by decide)) dX5_readArguments_66 (fun H_40 locs_41 hW_42 hS_43 => ?_)
    obtain ⟨w_44, ew_44⟩ : ∃ Z9, Z9 = upd (X.1 14) (3 * k + 0) v_36 := ⟨_, rfl⟩
    have hW_45 : Wd G (setRow (setRow X 11 w_32) 14 w_44) H_40 := Wd.cast (by rw [ew_44]; exact st_out) hW_42
    refine lv_iinc (v := 1) (lv' := [(3, .int 1), (6, .int v_36), (5, .int 110), (4, .int 0), (0, .ref (ad G 718)), (1, .ref (cy G (50 + 14))), (2, .ref (ad G (738 + k)))]) hx hb dX5_readArguments_67 hl_38 (k := 3) rfl (by decide) (by decide) rfl (fun ls_46 hl_47 => ?_)
    refine lv_iinc (v := 1) (lv' := [(4, .int 1), (3, .int 1), (6, .int v_36), (5, .int 110), (0, .ref (ad G 718)), (1, .ref (cy G (50 + 14))), (2, .ref (ad G (738 + k)))]) hx hb dX5_readArguments_70 hl_47 (k := 3) rfl (by decide) (by decide) rfl (fun ls_48 hl_49 => ?_)
    refine lv_goto (tgt := 5) hx hb dX5_readArguments_73 (by decide) ?_
    refine lv_iload hx hb dX5_readArguments_5 (lv_at hl_49 0 rfl) ?_
    refine lv_aload_n hx hb dX5_readArguments_7 rfl (lv_at hl_49 5 rfl) ?_
    refine g_calli (va_runV (As := []) (rest := [.int 1]) C.1 (cJ0_length_8abf5_ok l G (setRow (setRow X 11 w_32) 14 w_44) 14 (by decide)) (cwV 0 C.1.2.2.2.2 (gV qw_1373 qw_482 qw_483 qw_79 qw_484) rfl rfl rfl (by decide +kernel) ⟨Nat.le_of_ble_eq_true rfl, Nat.le_of_ble_eq_true rfl⟩) (g_rStr C hW_45 hS_43 (by decide) []) rfl rfl hl_49.1 rfl (lv_room (Nat.le_of_ble_eq_true rfl)) dX5_readArguments_8 ⟨Nat.zero_le _, Nat.zero_le _⟩) hS_43 (fun r_52 Y_51 H_53 locs_54 hW_55 hS_56 h_50 => ?_)
    obtain ⟨h_50, hy_57⟩ := h_50
    replace hy_57 := hy_57.symm
    subst hy_57
    subst h_50
    refine g_top (y := 1) (by decide) ?_
    refine lv_icmp_ge (tgt := 76) hx hb dX5_readArguments_11 (by decide) (fun _ => ?_) (fun h9 => absurd h9 (by decide))
    refine lv_iconst (v := 1) hx hb dX5_readArguments_76 (by decide) ?_
    exact g_zret C hr hlk hW_55 hS_56 dX5_readArguments_77 rfl (by subst ew_44; subst ev_36; subst ew_32; subst ep_31; exact ⟨by simp only [rdP, Nat.reduceAdd, c32a, c32b, c32c, uu6, b_39, if_true, if_false]; first | done | rfl, by simp only [rdP, Nat.reduceAdd, c32a, c32b, c32c, uu6, b_39, if_true, if_false]; first | done | rfl⟩)

set_option maxHeartbeats 4000000 in
set_option maxRecDepth 100000 in
theorem cX5_readArguments15_ok (l : Launch) (G : GT) (X : St) (L P : Nat) (hL : L ≤ 60) (hP : P ≤ L) (eL : X.1 11 5 = nI L) (eP : X.1 11 6 = nI P) (k : Nat) (hk : k < 60) : MetI l G yX5_readArguments (wsG yX5_readArguments cX5_readArguments 7 (some .boolean)) (rmz 4 85) [.ref (ad G 718), .ref (cy G (50 + 15)), .ref (ad G (738 + k))] X (fun res Y => res = (rdP (X.1 12) L k [110, 32, 100] 0 P (X.1 14)).1 ∧ Y = setRow (setRow X 11 (upd (X.1 11) (6) (nI (rdP (X.1 12) L k [110, 32, 100] 0 P (X.1 14)).2.1))) 14 (rdP (X.1 12) L k [110, 32, 100] 0 P (X.1 14)).2.2) := by
  refine g_met (cc := cX5_readArguments) (maxL := 7) (ret := (some .boolean)) (by decide) rfl (Nat.le_of_ble_eq_true rfl) ?_
  intro p e s m below meth c ls C hr hlk hnm hW hl
  have hx := C.1.1
  have hb := C.1.2.1
  have hS : va_S (Ab G) s.heap s.heap [] := va_S.rf
  have hl : lv_has ls 7 [(0, .ref (ad G 718)), (1, .ref (cy G (50 + 15))), (2, .ref (ad G (738 + k)))] := hl
  have hW : Wd G (setRow (setRow X 11 (X.1 11)) 14 (X.1 14)) s.heap := Wd.cast (((sr_same (X := setRow X 11 (X.1 11)) rfl).trans (sr_same (X := X) rfl)).symm) hW
  refine lv_iconst (v := 0) hx hb dX5_readArguments_0 (by decide) ?_
  refine lv_istore_n (lv' := [(3, .int 0), (0, .ref (ad G 718)), (1, .ref (cy G (50 + 15))), (2, .ref (ad G (738 + k)))]) hx hb dX5_readArguments_1 rfl hl (by decide) rfl (fun ls_1 hl_2 => ?_)
  refine lv_iconst (v := 0) hx hb dX5_readArguments_2 (by decide) ?_
  refine lv_istore (lv' := [(4, .int 0), (3, .int 0), (0, .ref (ad G 718)), (1, .ref (cy G (50 + 15))), (2, .ref (ad G (738 + k)))]) hx hb dX5_readArguments_3 hl_2 (by decide) rfl (fun ls_3 hl_4 => ?_)
  refine lv_iload hx hb dX5_readArguments_5 (lv_at hl_4 0 rfl) ?_
  refine lv_aload_n hx hb dX5_readArguments_7 rfl (lv_at hl_4 3 rfl) ?_
  refine g_calli (va_runV (As := []) (rest := [.int 0]) C.1 (cJ0_length_8abf5_ok l G (setRow (setRow X 11 (X.1 11)) 14 (X.1 14)) 15 (by decide)) (cwV 0 C.1.2.2.2.2 (gV qw_1373 qw_482 qw_483 qw_79 qw_484) rfl rfl rfl (by decide +kernel) ⟨Nat.le_of_ble_eq_true rfl, Nat.le_of_ble_eq_true rfl⟩) (g_rStr C hW hS (by decide) []) rfl rfl hl_4.1 rfl (lv_room (Nat.le_of_ble_eq_true rfl)) dX5_readArguments_8 ⟨Nat.zero_le _, Nat.zero_le _⟩) hS (fun r_7 Y_6 H_8 locs_9 hW_10 hS_11 h_5 => ?_)
  obtain ⟨h_5, hy_12⟩ := h_5
  replace hy_12 := hy_12.symm
  subst hy_12
  subst h_5
  refine g_top (y := 3) (by decide) ?_
  refine lv_icmp_ge (tgt := 76) hx hb dX5_readArguments_11 (by decide) (fun h9 => absurd h9 (by decide)) (fun _ => ?_)
  refine lv_aload_n hx hb dX5_readArguments_14 rfl (lv_at hl_4 3 rfl) ?_
  refine lv_iload hx hb dX5_readArguments_15 (lv_at hl_4 0 rfl) ?_
  refine g_calli (va_runV (As := [.int 0]) (rest := []) C.1 (cJ0_charAt_5068e_ok l G (setRow (setRow X 11 (X.1 11)) 14 (X.1 14)) 15 (by decide) 0 (by decide)) (cwV 1 C.1.2.2.2.2 (gV qw_1374 qw_1375 qw_1376 qw_79 qw_1377) rfl rfl rfl (by decide +kernel) ⟨Nat.le_of_ble_eq_true rfl, Nat.le_of_ble_eq_true rfl⟩) (g_rStr C hW_10 hS_11 (by decide) [.int 0]) rfl rfl hl_4.1 rfl (lv_room (Nat.le_of_ble_eq_true rfl)) dX5_readArguments_17 ⟨Nat.zero_le _, Nat.zero_le _⟩) hS_11 (fun r_15 Y_14 H_16 locs_17 hW_18 hS_19 h_13 => ?_)
  obtain ⟨h_13, hy_20⟩ := h_13
  replace hy_20 := hy_20.symm
  subst hy_20
  subst h_13
  refine g_top (y := 110) (by decide) ?_
  refine lv_istore (lv' := [(5, .int 110), (4, .int 0), (3, .int 0), (0, .ref (ad G 718)), (1, .ref (cy G (50 + 15))), (2, .ref (ad G (738 + k)))]) hx hb dX5_readArguments_20 hl_4 (by decide) rfl (fun ls_21 hl_22 => ?_)
  refine lv_iload hx hb dX5_readArguments_22 (lv_at hl_22 0 rfl) ?_
  refine lv_bipush (v := 32) hx hb dX5_readArguments_24 (by decide) ?_
  refine lv_icmp_ne (tgt := 40) hx hb dX5_readArguments_26 (by decide) (fun _ => ?_) (fun h9 => absurd h9 (by decide))
  refine lv_aload_n hx hb dX5_readArguments_40 rfl (lv_at hl_22 3 rfl) ?_
  refine lv_iload hx hb dX5_readArguments_41 (lv_at hl_22 0 rfl) ?_
  refine g_calli (va_runV (As := [.int 110]) (rest := []) C.1 (cX5_readValue110_ok l G (setRow (setRow X 11 (X.1 11)) 14 (X.1 14)) L P hL (by omega) ((congrFun (rd_in (by decide) rd_out) _).trans eL) ((congrFun (rd_in (by decide) rd_out) _).trans eP)) (cwV 1 C.1.2.2.2.2 (gV qw_1398 qw_1400 qw_24 qw_76 qw_1401) rfl rfl rfl (by decide +kernel) ⟨Nat.le_of_ble_eq_true rfl, Nat.le_of_ble_eq_true rfl⟩) (g_rScript C hW_18 hS_19 [.int 110]) rfl rfl hl_22.1 rfl (lv_room (Nat.le_of_ble_eq_true rfl)) dX5_readArguments_43 ⟨Nat.zero_le _, Nat.zero_le _⟩) hS_19 (fun r_24 Y_25 H_26 locs_27 hW_28 hS_29 h_23 => ?_)
  obtain ⟨h_30, h_23⟩ := h_23
  replace h_30 : r_24 = (rvV (X.1 12) L 110 P).2 := h_30
  replace h_23 : Y_25 = setRow (setRow (setRow X 11 (X.1 11)) 14 (X.1 14)) 11 (upd ((setRow (setRow X 11 (X.1 11)) 14 (X.1 14)).1 11) (6) (nI ((rvV (X.1 12) L 110 P).1))) := h_23
  obtain ⟨p_31, ep_31⟩ : ∃ Z9 : Nat, Z9 = (rvV (X.1 12) L 110 P).1 := ⟨_, rfl⟩
  rw [← ep_31] at h_23
  have bp_31 : P ≤ p_31 ∧ p_31 ≤ L := by rw [ep_31]; exact rvV_le (by omega) (by omega)
  subst h_30
  obtain ⟨w_32, ew_32⟩ : ∃ Z9, Z9 = upd (X.1 11) (6) (nI p_31) := ⟨_, rfl⟩
  have kn_33 : w_32 (5) = nI L := by rw [ew_32]; exact (kp_upd (by omega)).trans eL
  have hW_34 : Wd G (setRow (setRow X 11 w_32) 14 (X.1 14)) H_26 := Wd.cast (by rw [h_23, ew_32]; exact ((congrArg (fun Z9 => setRow (setRow (setRow X 11 (X.1 11)) 14 (X.1 14)) 11 (upd Z9 (6) (nI p_31))) (rd_in (by decide) rd_out)).trans (sr_in (by decide) sr_out))) hW_28
  have kn_35 : w_32 (6) = nI p_31 := by rw [ew_32]; exact pk_us
  refine lv_topi (fun v_36 ev_36 => ?_)
  refine lv_istore (lv' := [(6, .int v_36), (5, .int 110), (4, .int 0), (3, .int 0), (0, .ref (ad G 718)), (1, .ref (cy G (50 + 15))), (2, .ref (ad G (738 + k)))]) hx hb dX5_readArguments_46 hl_22 (by decide) rfl (fun ls_37 hl_38 => ?_)
  refine lv_iload hx hb dX5_readArguments_48 (lv_at hl_38 0 rfl) ?_
  refine lv_iconst (v := (-1)) hx hb dX5_readArguments_50 (by decide) ?_
  refine lv_icmp_eq (tgt := 60) hx hb dX5_readArguments_51 (by decide) (fun b_39 => ?_) (fun b_39 => ?_)
  · refine lv_iconst (v := 0) hx hb dX5_readArguments_60 (by decide) ?_
    exact g_zret C hr hlk hW_34 hS_29 dX5_readArguments_61 rfl (by subst ev_36; subst ew_32; subst ep_31; exact ⟨by simp only [rdP, Nat.reduceAdd, c32a, c32b, c32c, uu6, b_39, if_true, if_false]; first | done | rfl, by simp only [rdP, Nat.reduceAdd, c32a, c32b, c32c, uu6, b_39, if_true, if_false]; first | done | rfl⟩)
  · refine lv_iload_n hx hb dX5_readArguments_54 rfl (lv_at hl_38 3 rfl) ?_
    refine lv_aload_n hx hb dX5_readArguments_55 rfl (lv_at hl_38 6 rfl) ?_
    refine g_arglen C hW_34 hk dX5_readArguments_56 ?_
    refine lv_icmp_lt (tgt := 62) hx hb dX5_readArguments_57 (by decide) (fun _ => ?_) (fun h9 => absurd h9 (by decide))
    refine lv_aload_n hx hb dX5_readArguments_62 rfl (lv_at hl_38 6 rfl) ?_
    refine lv_iload_n hx hb dX5_readArguments_63 rfl (lv_at hl_38 3 rfl) ?_
    refine lv_iload hx hb dX5_readArguments_64 (lv_at hl_38 0 rfl) ?_
    refine g_argst C hW_34 hS_29 hk 0 (by decide) (vlit (by decide)) dX5_readArguments_66 (fun H_40 locs_41 hW_42 hS_43 => ?_)
    obtain ⟨w_44, ew_44⟩ : ∃ Z9, Z9 = upd (X.1 14) (3 * k + 0) v_36 := ⟨_, rfl⟩
    have hW_45 : Wd G (setRow (setRow X 11 w_32) 14 w_44) H_40 := Wd.cast (by rw [ew_44]; exact st_out) hW_42
    refine lv_iinc (v := 1) (lv' := [(3, .int 1), (6, .int v_36), (5, .int 110), (4, .int 0), (0, .ref (ad G 718)), (1, .ref (cy G (50 + 15))), (2, .ref (ad G (738 + k)))]) hx hb dX5_readArguments_67 hl_38 (k := 3) rfl (by decide) (by decide) rfl (fun ls_46 hl_47 => ?_)
    refine lv_iinc (v := 1) (lv' := [(4, .int 1), (3, .int 1), (6, .int v_36), (5, .int 110), (0, .ref (ad G 718)), (1, .ref (cy G (50 + 15))), (2, .ref (ad G (738 + k)))]) hx hb dX5_readArguments_70 hl_47 (k := 3) rfl (by decide) (by decide) rfl (fun ls_48 hl_49 => ?_)
    refine lv_goto (tgt := 5) hx hb dX5_readArguments_73 (by decide) ?_
    refine lv_iload hx hb dX5_readArguments_5 (lv_at hl_49 0 rfl) ?_
    refine lv_aload_n hx hb dX5_readArguments_7 rfl (lv_at hl_49 5 rfl) ?_
    refine g_calli (va_runV (As := []) (rest := [.int 1]) C.1 (cJ0_length_8abf5_ok l G (setRow (setRow X 11 w_32) 14 w_44) 15 (by decide)) (cwV 0 C.1.2.2.2.2 (gV qw_1373 qw_482 qw_483 qw_79 qw_484) rfl rfl rfl (by decide +kernel) ⟨Nat.le_of_ble_eq_true rfl, Nat.le_of_ble_eq_true rfl⟩) (g_rStr C hW_45 hS_43 (by decide) []) rfl rfl hl_49.1 rfl (lv_room (Nat.le_of_ble_eq_true rfl)) dX5_readArguments_8 ⟨Nat.zero_le _, Nat.zero_le _⟩) hS_43 (fun r_52 Y_51 H_53 locs_54 hW_55 hS_56 h_50 => ?_)
    obtain ⟨h_50, hy_57⟩ := h_50
    replace hy_57 := hy_57.symm
    subst hy_57
    subst h_50
    refine g_top (y := 3) (by decide) ?_
    refine lv_icmp_ge (tgt := 76) hx hb dX5_readArguments_11 (by decide) (fun h9 => absurd h9 (by decide)) (fun _ => ?_)
    refine lv_aload_n hx hb dX5_readArguments_14 rfl (lv_at hl_49 5 rfl) ?_
    refine lv_iload hx hb dX5_readArguments_15 (lv_at hl_49 0 rfl) ?_
    refine g_calli (va_runV (As := [.int 1]) (rest := []) C.1 (cJ0_charAt_5068e_ok l G (setRow (setRow X 11 w_32) 14 w_44) 15 (by decide) 1 (by decide)) (cwV 1 C.1.2.2.2.2 (gV qw_1374 qw_1375 qw_1376 qw_79 qw_1377) rfl rfl rfl (by decide +kernel) ⟨Nat.le_of_ble_eq_true rfl, Nat.le_of_ble_eq_true rfl⟩) (g_rStr C hW_55 hS_56 (by decide) [.int 1]) rfl rfl hl_49.1 rfl (lv_room (Nat.le_of_ble_eq_true rfl)) dX5_readArguments_17 ⟨Nat.zero_le _, Nat.zero_le _⟩) hS_56 (fun r_60 Y_59 H_61 locs_62 hW_63 hS_64 h_58 => ?_)
    obtain ⟨h_58, hy_65⟩ := h_58
    replace hy_65 := hy_65.symm
    subst hy_65
    subst h_58
    refine g_top (y := 32) (by decide) ?_
    refine lv_istore (lv' := [(5, .int 32), (4, .int 1), (3, .int 1), (6, .int v_36), (0, .ref (ad G 718)), (1, .ref (cy G (50 + 15))), (2, .ref (ad G (738 + k)))]) hx hb dX5_readArguments_20 hl_49 (by decide) rfl (fun ls_66 hl_67 => ?_)
    refine lv_iload hx hb dX5_readArguments_22 (lv_at hl_67 0 rfl) ?_
    refine lv_bipush (v := 32) hx hb dX5_readArguments_24 (by decide) ?_
    refine lv_icmp_ne (tgt := 40) hx hb dX5_readArguments_26 (by decide) (fun h9 => absurd h9 (by decide)) (fun _ => ?_)
    refine lv_aload_n hx hb dX5_readArguments_29 rfl (lv_at hl_67 4 rfl) ?_
    refine lv_bipush (v := 32) hx hb dX5_readArguments_30 (by decide) ?_
    refine g_calli (va_runV (As := [.int 32]) (rest := []) C.1 (cX5_readSign_ok l G (setRow (setRow X 11 w_32) 14 w_44) L p_31 hL (by omega) ((congrFun (rd_in (by decide) rd_out) _).trans kn_33) ((congrFun (rd_in (by decide) rd_out) _).trans kn_35) 32) (cwV 1 C.1.2.2.2.2 (gV qw_1394 qw_1396 qw_23 qw_76 qw_1397) rfl rfl rfl (by decide +kernel) ⟨Nat.le_of_ble_eq_true rfl, Nat.le_of_ble_eq_true rfl⟩) (g_rScript C hW_63 hS_64 [.int 32]) rfl rfl hl_67.1 rfl (lv_room (Nat.le_of_ble_eq_true rfl)) dX5_readArguments_32 ⟨Nat.zero_le _, Nat.zero_le _⟩) hS_64 (fun r_69 Y_70 H_71 locs_72 hW_73 hS_74 h_68 => ?_)
    obtain ⟨h_75, h_68⟩ := h_68
    replace h_75 : r_69 = (rsV (X.1 12) L p_31 32).2 := h_75
    replace h_68 : Y_70 = setRow (setRow (setRow X 11 w_32) 14 w_44) 11 (upd ((setRow (setRow X 11 w_32) 14 w_44).1 11) (6) (nI ((rsV (X.1 12) L p_31 32).1))) := h_68
    obtain ⟨p_76, ep_76⟩ : ∃ Z9 : Nat, Z9 = (rsV (X.1 12) L p_31 32).1 := ⟨_, rfl⟩
    rw [← ep_76] at h_68
    have bp_76 : p_31 ≤ p_76 ∧ p_76 ≤ L := by rw [ep_76]; exact rsV_le (by omega) (by omega)
    subst h_75
    obtain ⟨w_77, ew_77⟩ : ∃ Z9, Z9 = upd w_32 (6) (nI p_76) := ⟨_, rfl⟩
    have kn_78 : w_77 (5) = nI L := by rw [ew_77]; exact (kp_upd (by omega)).trans kn_33
    have hW_79 : Wd G (setRow (setRow X 11 w_77) 14 w_44) H_71 := Wd.cast (by rw [h_68, ew_77]; exact ((congrArg (fun Z9 => setRow (setRow (setRow X 11 w_32) 14 w_44) 11 (upd Z9 (6) (nI p_76))) (rd_in (by decide) rd_out)).trans (sr_in (by decide) sr_out))) hW_73
    have kn_80 : w_77 (6) = nI p_76 := by rw [ew_77]; exact pk_us
    refine lv_if_ne (tgt := 70) hx hb dX5_readArguments_35 (by decide) (fun b_81 => ?_) (fun b_81 => ?_)
    · refine lv_iinc (v := 2) (lv' := [(4, .int 2), (5, .int 32), (3, .int 1), (6, .int v_36), (0, .ref (ad G 718)), (1, .ref (cy G (50 + 15))), (2, .ref (ad G (738 + k)))]) hx hb dX5_readArguments_70 hl_67 (k := 1) rfl (by decide) (by decide) rfl (fun ls_82 hl_83 => ?_)
      refine lv_goto (tgt := 5) hx hb dX5_readArguments_73 (by decide) ?_
      refine lv_iload hx hb dX5_readArguments_5 (lv_at hl_83 0 rfl) ?_
      refine lv_aload_n hx hb dX5_readArguments_7 rfl (lv_at hl_83 5 rfl) ?_
      refine g_calli (va_runV (As := []) (rest := [.int 2]) C.1 (cJ0_length_8abf5_ok l G (setRow (setRow X 11 w_77) 14 w_44) 15 (by decide)) (cwV 0 C.1.2.2.2.2 (gV qw_1373 qw_482 qw_483 qw_79 qw_484) rfl rfl rfl (by decide +kernel) ⟨Nat.le_of_ble_eq_true rfl, Nat.le_of_ble_eq_true rfl⟩) (g_rStr C hW_79 hS_74 (by decide) []) rfl rfl hl_83.1 rfl (lv_room (Nat.le_of_ble_eq_true rfl)) dX5_readArguments_8 ⟨Nat.zero_le _, Nat.zero_le _⟩) hS_74 (fun r_86 Y_85 H_87 locs_88 hW_89 hS_90 h_84 => ?_)
      obtain ⟨h_84, hy_91⟩ := h_84
      replace hy_91 := hy_91.symm
      subst hy_91
      subst h_84
      refine g_top (y := 3) (by decide) ?_
      refine lv_icmp_ge (tgt := 76) hx hb dX5_readArguments_11 (by decide) (fun h9 => absurd h9 (by decide)) (fun _ => ?_)
      refine lv_aload_n hx hb dX5_readArguments_14 rfl (lv_at hl_83 5 rfl) ?_
      refine lv_iload hx hb dX5_readArguments_15 (lv_at hl_83 0 rfl) ?_
      refine g_calli (va_runV (As := [.int 2]) (rest := []) C.1 (cJ0_charAt_5068e_ok l G (setRow (setRow X 11 w_77) 14 w_44) 15 (by decide) 2 (by decide)) (cwV 1 C.1.2.2.2.2 (gV qw_1374 qw_1375 qw_1376 qw_79 qw_1377) rfl rfl rfl (by decide +kernel) ⟨Nat.le_of_ble_eq_true rfl, Nat.le_of_ble_eq_true rfl⟩) (g_rStr C hW_89 hS_90 (by decide) [.int 2]) rfl rfl hl_83.1 rfl (lv_room (Nat.le_of_ble_eq_true rfl)) dX5_readArguments_17 ⟨Nat.zero_le _, Nat.zero_le _⟩) hS_90 (fun r_94 Y_93 H_95 locs_96 hW_97 hS_98 h_92 => ?_)
      obtain ⟨h_92, hy_99⟩ := h_92
      replace hy_99 := hy_99.symm
      subst hy_99
      subst h_92
      refine g_top (y := 100) (by decide) ?_
      refine lv_istore (lv' := [(5, .int 100), (4, .int 2), (3, .int 1), (6, .int v_36), (0, .ref (ad G 718)), (1, .ref (cy G (50 + 15))), (2, .ref (ad G (738 + k)))]) hx hb dX5_readArguments_20 hl_83 (by decide) rfl (fun ls_100 hl_101 => ?_)
      refine lv_iload hx hb dX5_readArguments_22 (lv_at hl_101 0 rfl) ?_
      refine lv_bipush (v := 32) hx hb dX5_readArguments_24 (by decide) ?_
      refine lv_icmp_ne (tgt := 40) hx hb dX5_readArguments_26 (by decide) (fun _ => ?_) (fun h9 => absurd h9 (by decide))
      refine lv_aload_n hx hb dX5_readArguments_40 rfl (lv_at hl_101 4 rfl) ?_
      refine lv_iload hx hb dX5_readArguments_41 (lv_at hl_101 0 rfl) ?_
      refine g_calli (va_runV (As := [.int 100]) (rest := []) C.1 (cX5_readValue100_ok l G (setRow (setRow X 11 w_77) 14 w_44) L p_76 hL (by omega) ((congrFun (rd_in (by decide) rd_out) _).trans kn_78) ((congrFun (rd_in (by decide) rd_out) _).trans kn_80)) (cwV 1 C.1.2.2.2.2 (gV qw_1398 qw_1400 qw_24 qw_76 qw_1401) rfl rfl rfl (by decide +kernel) ⟨Nat.le_of_ble_eq_true rfl, Nat.le_of_ble_eq_true rfl⟩) (g_rScript C hW_97 hS_98 [.int 100]) rfl rfl hl_101.1 rfl (lv_room (Nat.le_of_ble_eq_true rfl)) dX5_readArguments_43 ⟨Nat.zero_le _, Nat.zero_le _⟩) hS_98 (fun r_103 Y_104 H_105 locs_106 hW_107 hS_108 h_102 => ?_)
      obtain ⟨h_109, h_102⟩ := h_102
      replace h_109 : r_103 = (rvV (X.1 12) L 100 p_76).2 := h_109
      replace h_102 : Y_104 = setRow (setRow (setRow X 11 w_77) 14 w_44) 11 (upd ((setRow (setRow X 11 w_77) 14 w_44).1 11) (6) (nI ((rvV (X.1 12) L 100 p_76).1))) := h_102
      obtain ⟨p_110, ep_110⟩ : ∃ Z9 : Nat, Z9 = (rvV (X.1 12) L 100 p_76).1 := ⟨_, rfl⟩
      rw [← ep_110] at h_102
      have bp_110 : p_76 ≤ p_110 ∧ p_110 ≤ L := by rw [ep_110]; exact rvV_le (by omega) (by omega)
      subst h_109
      obtain ⟨w_111, ew_111⟩ : ∃ Z9, Z9 = upd w_77 (6) (nI p_110) := ⟨_, rfl⟩
      have kn_112 : w_111 (5) = nI L := by rw [ew_111]; exact (kp_upd (by omega)).trans kn_78
      have hW_113 : Wd G (setRow (setRow X 11 w_111) 14 w_44) H_105 := Wd.cast (by rw [h_102, ew_111]; exact ((congrArg (fun Z9 => setRow (setRow (setRow X 11 w_77) 14 w_44) 11 (upd Z9 (6) (nI p_110))) (rd_in (by decide) rd_out)).trans (sr_in (by decide) sr_out))) hW_107
      have kn_114 : w_111 (6) = nI p_110 := by rw [ew_111]; exact pk_us
      refine lv_topi (fun v_115 ev_115 => ?_)
      refine lv_istore (lv' := [(6, .int v_115), (5, .int 100), (4, .int 2), (3, .int 1), (0, .ref (ad G 718)), (1, .ref (cy G (50 + 15))), (2, .ref (ad G (738 + k)))]) hx hb dX5_readArguments_46 hl_101 (by decide) rfl (fun ls_116 hl_117 => ?_)
      refine lv_iload hx hb dX5_readArguments_48 (lv_at hl_117 0 rfl) ?_
      refine lv_iconst (v := (-1)) hx hb dX5_readArguments_50 (by decide) ?_
      refine lv_icmp_eq (tgt := 60) hx hb dX5_readArguments_51 (by decide) (fun b_118 => ?_) (fun b_118 => ?_)
      · refine lv_iconst (v := 0) hx hb dX5_readArguments_60 (by decide) ?_
        exact g_zret C hr hlk hW_113 hS_108 dX5_readArguments_61 rfl (by subst ev_115; subst ew_111; subst ep_110; subst ew_77; subst ep_76; subst ew_44; subst ev_36; subst ew_32; subst ep_31; exact ⟨by simp only [rdP, Nat.reduceAdd, c32a, c32b, c32c, uu6, b_39, b_81, b_118, if_true, if_false]; first | done | rfl, by simp only [rdP, Nat.reduceAdd, c32a, c32b, c32c, uu6, b_39, b_81, b_118, if_true, if_false]; first | done | rfl⟩)
      · refine lv_iload_n hx hb dX5_readArguments_54 rfl (lv_at hl_117 3 rfl) ?_
        refine lv_aload_n hx hb dX5_readArguments_55 rfl (lv_at hl_117 6 rfl) ?_
        refine g_arglen C hW_113 hk dX5_readArguments_56 ?_
        refine lv_icmp_lt (tgt := 62) hx hb dX5_readArguments_57 (by decide) (fun _ => ?_) (fun h9 => absurd h9 (by decide))
        refine lv_aload_n hx hb dX5_readArguments_62 rfl (lv_at hl_117 6 rfl) ?_
        refine lv_iload_n hx hb dX5_readArguments_63 rfl (lv_at hl_117 3 rfl) ?_
        refine lv_iload hx hb dX5_readArguments_64 (lv_at hl_117 0 rfl) ?_
        refine g_argst C hW_113 hS_108 hk 1 (by decide) (vlit (by decide)) dX5_readArguments_66 (fun H_119 locs_120 hW_121 hS_122 => ?_)
        obtain ⟨w_123, ew_123⟩ : ∃ Z9, Z9 = upd w_44 (3 * k + 1) v_115 := ⟨_, rfl⟩
        have hW_124 : Wd G (setRow (setRow X 11 w_111) 14 w_123) H_119 := Wd.cast (by rw [ew_123]; exact st_out) hW_121
        refine lv_iinc (v := 2) (lv' := [(3, .int 2), (6, .int v_115), (5, .int 100), (4, .int 2), (0, .ref (ad G 718)), (1, .ref (cy G (50 + 15))), (2, .ref (ad G (738 + k)))]) hx hb dX5_readArguments_67 hl_117 (k := 3) rfl (by decide) (by decide) rfl (fun ls_125 hl_126 => ?_)
        refine lv_iinc (v := 3) (lv' := [(4, .int 3), (3, .int 2), (6, .int v_115), (5, .int 100), (0, .ref (ad G 718)), (1, .ref (cy G (50 + 15))), (2, .ref (ad G (738 + k)))]) hx hb dX5_readArguments_70 hl_126 (k := 3) rfl (by decide) (by decide) rfl (fun ls_127 hl_128 => ?_)
        refine lv_goto (tgt := 5) hx hb dX5_readArguments_73 (by decide) ?_
        refine lv_iload hx hb dX5_readArguments_5 (lv_at hl_128 0 rfl) ?_
        refine lv_aload_n hx hb dX5_readArguments_7 rfl (lv_at hl_128 5 rfl) ?_
        refine g_calli (va_runV (As := []) (rest := [.int 3]) C.1 (cJ0_length_8abf5_ok l G (setRow (setRow X 11 w_111) 14 w_123) 15 (by decide)) (cwV 0 C.1.2.2.2.2 (gV qw_1373 qw_482 qw_483 qw_79 qw_484) rfl rfl rfl (by decide +kernel) ⟨Nat.le_of_ble_eq_true rfl, Nat.le_of_ble_eq_true rfl⟩) (g_rStr C hW_124 hS_122 (by decide) []) rfl rfl hl_128.1 rfl (lv_room (Nat.le_of_ble_eq_true rfl)) dX5_readArguments_8 ⟨Nat.zero_le _, Nat.zero_le _⟩) hS_122 (fun r_131 Y_130 H_132 locs_133 hW_134 hS_135 h_129 => ?_)
        obtain ⟨h_129, hy_136⟩ := h_129
        replace hy_136 := hy_136.symm
        subst hy_136
        subst h_129
        refine g_top (y := 3) (by decide) ?_
        refine lv_icmp_ge (tgt := 76) hx hb dX5_readArguments_11 (by decide) (fun _ => ?_) (fun h9 => absurd h9 (by decide))
        refine lv_iconst (v := 1) hx hb dX5_readArguments_76 (by decide) ?_
        exact g_zret C hr hlk hW_134 hS_135 dX5_readArguments_77 rfl (by subst ew_123; subst ev_115; subst ew_111; subst ep_110; subst ew_77; subst ep_76; subst ew_44; subst ev_36; subst ew_32; subst ep_31; exact ⟨by simp only [rdP, Nat.reduceAdd, c32a, c32b, c32c, uu6, b_39, b_81, b_118, if_true, if_false]; first | done | rfl, by simp only [rdP, Nat.reduceAdd, c32a, c32b, c32c, uu6, b_39, b_81, b_118, if_true, if_false]; first | done | rfl⟩)
    · refine lv_iconst (v := 0) hx hb dX5_readArguments_38 (by decide) ?_
      exact g_zret C hr hlk hW_79 hS_74 dX5_readArguments_39 rfl (by subst ew_77; subst ep_76; subst ew_44; subst ev_36; subst ew_32; subst ep_31; exact ⟨by simp only [rdP, Nat.reduceAdd, c32a, c32b, c32c, uu6, b_39, b_81, if_true, if_false]; first | done | rfl, by simp only [rdP, Nat.reduceAdd, c32a, c32b, c32c, uu6, b_39, b_81, if_true, if_false]; first | done | rfl⟩)

set_option maxHeartbeats 4000000 in
set_option maxRecDepth 100000 in
theorem cX5_readCommand_ok (l : Launch) (G : GT) (X : St) (L P : Nat) (hL : L ≤ 60) (hP : P ≤ L) (eL : X.1 11 5 = nI L) (eP : X.1 11 6 = nI P) (k : Nat) (hk : k < 60) : MetI l G yX5_readCommand (wsG yX5_readCommand cX5_readCommand 3 (some .boolean)) (rmz 6 131) [.ref (ad G 718), .int (nI k)] X (fun res Y => res = (rcR (X.1 12) L k P (X.1 13) (X.1 14)).1 ∧ Y = setRow (setRow (setRow X 11 (upd (X.1 11) (6) (nI (rcR (X.1 12) L k P (X.1 13) (X.1 14)).2.1))) 14 (rcR (X.1 12) L k P (X.1 13) (X.1 14)).2.2.2) 13 (rcR (X.1 12) L k P (X.1 13) (X.1 14)).2.2.1) := by
  refine g_met (cc := cX5_readCommand) (maxL := 3) (ret := (some .boolean)) (by decide) rfl (Nat.le_of_ble_eq_true rfl) ?_
  intro p e s m below meth c ls C hr hlk hnm hW hl
  have hx := C.1.1
  have hb := C.1.2.1
  have hS : va_S (Ab G) s.heap s.heap [] := va_S.rf
  have hl : lv_has ls 3 [(0, .ref (ad G 718)), (1, .int (nI k))] := hl
  have hW : Wd G (setRow (setRow (setRow X 11 (X.1 11)) 14 (X.1 14)) 13 (X.1 13)) s.heap := Wd.cast (((sr_same (X := setRow (setRow X 11 (X.1 11)) 14 (X.1 14)) rfl).trans ((sr_same (X := setRow X 11 (X.1 11)) rfl).trans (sr_same (X := X) rfl))).symm) hW
  refine lv_aload_n hx hb dX5_readCommand_0 rfl (lv_at hl 0 rfl) ?_
  refine g_calle (va_runV (As := []) (rest := []) C.1 (cX5_readWord_ok l G (setRow (setRow (setRow X 11 (X.1 11)) 14 (X.1 14)) 13 (X.1 13)) L P hL (by omega) ((congrFun (rd_in (by decide) (rd_in (by decide) rd_out)) _).trans eL) ((congrFun (rd_in (by decide) (rd_in (by decide) rd_out)) _).trans eP)) (cwV 0 C.1.2.2.2.2 (gV qw_1363 qw_1365 qw_20 qw_76 qw_1366) rfl rfl rfl (by decide +kernel) ⟨Nat.le_of_ble_eq_true rfl, Nat.le_of_ble_eq_true rfl⟩) (g_rScript C hW hS []) rfl rfl hl.1 rfl (lv_room (Nat.le_of_ble_eq_true rfl)) dX5_readCommand_1 ⟨Nat.zero_le _, Nat.zero_le _⟩) hS (fun r_2 Y_3 H_4 locs_5 hW_6 hS_7 h_1 => ?_)
  obtain ⟨hr_8, h_1⟩ := h_1
  replace hr_8 : r_2 = (wordR (X.1 12) L P).1 := hr_8
  replace h_1 : Y_3 = setRow (setRow (setRow (setRow X 11 (X.1 11)) 14 (X.1 14)) 13 (X.1 13)) 11 (upd (X.1 11) (6) (nI (wordR (X.1 12) L P).2)) := h_1
  obtain ⟨p_9, ep_9⟩ : ∃ Z9 : Nat, Z9 = (wordR (X.1 12) L P).2 := ⟨_, rfl⟩
  rw [← ep_9] at h_1
  have bp_9 : P ≤ p_9 ∧ p_9 ≤ L := by rw [ep_9]; exact wordR_le (by omega) (by omega)
  subst hr_8
  obtain ⟨w_10, ew_10⟩ : ∃ Z9, Z9 = upd (X.1 11) (6) (nI p_9) := ⟨_, rfl⟩
  have qqw_10 := h_1
  rw [← ew_10] at qqw_10
  have hW_11 : Wd G (setRow (setRow (setRow X 11 w_10) 14 (X.1 14)) 13 (X.1 13)) H_4 := Wd.cast (qqw_10.trans (sr_in (by decide) (sr_in (by decide) sr_out))) hW_6
  have kn_12 : w_10 (5) = nI L := by rw [ew_10]; exact (kp_upd (by omega)).trans eL
  have kn_13 : w_10 (6) = nI p_9 := by rw [ew_10]; exact pk_us
  rcases h9 : (wordR (X.1 12) L P).1 with _ | i9
  · refine g_topv (y := .null) rfl ?_
    refine lv_astore_nN (lv' := [(2, .null), (0, .ref (ad G 718)), (1, .int (nI k))]) hx hb dX5_readCommand_4 rfl hl (by decide) rfl (fun ls_14 hl_15 => ?_)
    refine lv_aload_nN hx hb dX5_readCommand_5 rfl (lv_at hl_15 0 rfl) ?_
    refine lv_ifnullN (tgt := 26) hx hb dX5_readCommand_6 (by decide) ?_
    refine lv_iconst (v := 0) hx hb dX5_readCommand_26 (by decide) ?_
    exact g_zret C hr hlk hW_11 hS_7 dX5_readCommand_27 rfl (by subst ew_10; subst ep_9; exact ⟨by simp only [rcR, formL, uu6, h9, if_true, if_false]; first | done | rfl, by simp only [rcR, formL, uu6, h9, if_true, if_false]; first | done | rfl⟩)
  have hi9 := wordR_lt h9
  rcases (show i9 = 0 ∨ i9 = 1 ∨ i9 = 2 ∨ i9 = 3 ∨ i9 = 4 ∨ i9 = 5 ∨ i9 = 6 ∨ i9 = 7 ∨ i9 = 8 ∨ i9 = 9 by omega) with rfl | rfl | rfl | rfl | rfl | rfl | rfl | rfl | rfl | rfl
  · refine g_topv (y := .ref (cy G (20 + 0))) rfl ?_
    refine lv_astore_n (lv' := [(2, .ref (cy G (20 + 0))), (0, .ref (ad G 718)), (1, .int (nI k))]) hx hb dX5_readCommand_4 rfl hl (by decide) rfl (fun ls_16 hl_17 => ?_)
    refine lv_aload_n hx hb dX5_readCommand_5 rfl (lv_at hl_17 0 rfl) ?_
    refine lv_ifnull hx hb dX5_readCommand_6 ?_
    refine lv_aload_n hx hb dX5_readCommand_9 rfl (lv_at hl_17 1 rfl) ?_
    refine lv_aload_n hx hb dX5_readCommand_10 rfl (lv_at hl_17 0 rfl) ?_
    refine g_efN C hS_7 C.2.2.2.2.2.2.2.2.2.2.2.2.1 (i := 0) (by decide) nw_23 dX5_readCommand_11 ?_
    refine g_topv (y := .ref (cy G (50 + 10))) rfl ?_
    refine lv_aload_n hx hb dX5_readCommand_14 rfl (lv_at hl_17 1 rfl) ?_
    refine gSc_arguments C hW_11 (hwc hwX5) (mc qw_236) dX5_readCommand_15 ?_
    refine lv_iload_n hx hb dX5_readCommand_18 rfl (lv_at hl_17 2 rfl) ?_
    refine g_args C hW_11 k (nI_clamp (by omega)) (vp_in_nI hk (by decide)) dX5_readCommand_19 ?_
    refine g_calli (va_runV (As := [.ref (cy G (50 + 10)), .ref (ad G (738 + k))]) (rest := []) C.1 (cX5_readArguments10_ok l G (setRow (setRow (setRow X 11 w_10) 14 (X.1 14)) 13 (X.1 13)) L p_9 hL (by omega) ((congrFun (rd_in (by decide) (rd_in (by decide) rd_out)) _).trans kn_12) ((congrFun (rd_in (by decide) (rd_in (by decide) rd_out)) _).trans kn_13) k hk) (cwV 2 C.1.2.2.2.2 (gV qw_1390 qw_1392 qw_22 qw_76 qw_1393) rfl rfl rfl (by decide +kernel) ⟨Nat.le_of_ble_eq_true rfl, Nat.le_of_ble_eq_true rfl⟩) (g_rScript C hW_11 hS_7 [.ref (cy G (50 + 10)), .ref (ad G (738 + k))]) rfl rfl hl_17.1 rfl (lv_room (Nat.le_of_ble_eq_true rfl)) dX5_readCommand_20 ⟨Nat.zero_le _, Nat.zero_le _⟩) hS_7 (fun r_19 Y_20 H_21 locs_22 hW_23 hS_24 h_18 => ?_)
    obtain ⟨h_25, h_18⟩ := h_18
    replace h_25 : r_19 = (rdP (X.1 12) L k [100, 32, 109, 110] 0 p_9 (X.1 14)).1 := h_25
    replace h_18 : Y_20 = setRow (setRow (setRow (setRow (setRow X 11 w_10) 14 (X.1 14)) 13 (X.1 13)) 11 (upd w_10 (6) (nI ((rdP (X.1 12) L k [100, 32, 109, 110] 0 p_9 (X.1 14)).2.1)))) 14 ((rdP (X.1 12) L k [100, 32, 109, 110] 0 p_9 (X.1 14)).2.2) := h_18
    obtain ⟨p_26, ep_26⟩ : ∃ Z9 : Nat, Z9 = (rdP (X.1 12) L k [100, 32, 109, 110] 0 p_9 (X.1 14)).2.1 := ⟨_, rfl⟩
    rw [← ep_26] at h_18
    have bp_26 : p_9 ≤ p_26 ∧ p_26 ≤ L := by rw [ep_26]; exact rdP_le (by omega) (by omega)
    subst h_25
    obtain ⟨w_27, ew_27⟩ : ∃ Z9, Z9 = upd w_10 (6) (nI p_26) := ⟨_, rfl⟩
    obtain ⟨w_28, ew_28⟩ : ∃ Z9, Z9 = (rdP (X.1 12) L k [100, 32, 109, 110] 0 p_9 (X.1 14)).2.2 := ⟨_, rfl⟩
    have qqw_27 := h_18
    rw [← ew_27, ← ew_28] at qqw_27
    have hW_29 : Wd G (setRow (setRow (setRow X 11 w_27) 14 w_28) 13 (X.1 13)) H_21 := Wd.cast ((qqw_27.trans (congrArg (fun Z9 => setRow (Z9) 14 w_28) (sr_in (by decide) (sr_in (by decide) sr_out)))).trans (sr_in (by decide) sr_out)) hW_23
    have kn_30 : w_27 (5) = nI L := by rw [ew_27]; exact (kp_upd (by omega)).trans kn_12
    have kn_31 : w_27 (6) = nI p_26 := by rw [ew_27]; exact pk_us
    refine lv_if_ne (tgt := 28) hx hb dX5_readCommand_23 (by decide) (fun b_32 => ?_) (fun b_32 => ?_)
    · refine lv_aload_n hx hb dX5_readCommand_28 rfl (lv_at hl_17 1 rfl) ?_
      refine gSc_commands C hW_29 (hwc hwX5) (mc qw_234) dX5_readCommand_29 ?_
      refine lv_iload_n hx hb dX5_readCommand_32 rfl (lv_at hl_17 2 rfl) ?_
      refine lv_aload_n hx hb dX5_readCommand_33 rfl (lv_at hl_17 0 rfl) ?_
      refine g_cmdst C hW_29 hS_24 k (nI_clamp (by omega)) (vp_in_nI hk (by decide)) (by decide) dX5_readCommand_34 (fun H_33 locs_34 hW_35 hS_36 => ?_)
      obtain ⟨w_37, ew_37⟩ : ∃ Z9, Z9 = upd (X.1 13) (k) (nI (0 + 1)) := ⟨_, rfl⟩
      have hW_38 : Wd G (setRow (setRow (setRow X 11 w_27) 14 w_28) 13 w_37) H_33 := Wd.cast (by rw [ew_37]; exact st_out) hW_35
      refine lv_iconst (v := 1) hx hb dX5_readCommand_35 (by decide) ?_
      exact g_zret C hr hlk hW_38 hS_36 dX5_readCommand_36 rfl (by subst ew_37; subst ew_28; subst ew_27; subst ep_26; subst ew_10; subst ep_9; exact ⟨by simp only [rcR, formL, uu6, h9, b_32, if_true, if_false]; first | done | rfl, by simp only [rcR, formL, uu6, h9, b_32, if_true, if_false]; first | done | rfl⟩)
    · refine lv_iconst (v := 0) hx hb dX5_readCommand_26 (by decide) ?_
      exact g_zret C hr hlk hW_29 hS_24 dX5_readCommand_27 rfl (by subst ew_28; subst ew_27; subst ep_26; subst ew_10; subst ep_9; exact ⟨by simp only [rcR, formL, uu6, h9, b_32, if_true, if_false]; first | done | rfl, by simp only [rcR, formL, uu6, h9, b_32, if_true, if_false]; first | done | rfl⟩)
  · refine g_topv (y := .ref (cy G (20 + 1))) rfl ?_
    refine lv_astore_n (lv' := [(2, .ref (cy G (20 + 1))), (0, .ref (ad G 718)), (1, .int (nI k))]) hx hb dX5_readCommand_4 rfl hl (by decide) rfl (fun ls_39 hl_40 => ?_)
    refine lv_aload_n hx hb dX5_readCommand_5 rfl (lv_at hl_40 0 rfl) ?_
    refine lv_ifnull hx hb dX5_readCommand_6 ?_
    refine lv_aload_n hx hb dX5_readCommand_9 rfl (lv_at hl_40 1 rfl) ?_
    refine lv_aload_n hx hb dX5_readCommand_10 rfl (lv_at hl_40 0 rfl) ?_
    refine g_efN C hS_7 C.2.2.2.2.2.2.2.2.2.2.2.2.1 (i := 1) (by decide) nw_23 dX5_readCommand_11 ?_
    refine g_topv (y := .ref (cy G (50 + 11))) rfl ?_
    refine lv_aload_n hx hb dX5_readCommand_14 rfl (lv_at hl_40 1 rfl) ?_
    refine gSc_arguments C hW_11 (hwc hwX5) (mc qw_236) dX5_readCommand_15 ?_
    refine lv_iload_n hx hb dX5_readCommand_18 rfl (lv_at hl_40 2 rfl) ?_
    refine g_args C hW_11 k (nI_clamp (by omega)) (vp_in_nI hk (by decide)) dX5_readCommand_19 ?_
    refine g_calli (va_runV (As := [.ref (cy G (50 + 11)), .ref (ad G (738 + k))]) (rest := []) C.1 (cX5_readArguments11_ok l G (setRow (setRow (setRow X 11 w_10) 14 (X.1 14)) 13 (X.1 13)) L p_9 hL (by omega) ((congrFun (rd_in (by decide) (rd_in (by decide) rd_out)) _).trans kn_12) ((congrFun (rd_in (by decide) (rd_in (by decide) rd_out)) _).trans kn_13) k hk) (cwV 2 C.1.2.2.2.2 (gV qw_1390 qw_1392 qw_22 qw_76 qw_1393) rfl rfl rfl (by decide +kernel) ⟨Nat.le_of_ble_eq_true rfl, Nat.le_of_ble_eq_true rfl⟩) (g_rScript C hW_11 hS_7 [.ref (cy G (50 + 11)), .ref (ad G (738 + k))]) rfl rfl hl_40.1 rfl (lv_room (Nat.le_of_ble_eq_true rfl)) dX5_readCommand_20 ⟨Nat.zero_le _, Nat.zero_le _⟩) hS_7 (fun r_42 Y_43 H_44 locs_45 hW_46 hS_47 h_41 => ?_)
    obtain ⟨h_48, h_41⟩ := h_41
    replace h_48 : r_42 = (rdP (X.1 12) L k [100, 32, 100] 0 p_9 (X.1 14)).1 := h_48
    replace h_41 : Y_43 = setRow (setRow (setRow (setRow (setRow X 11 w_10) 14 (X.1 14)) 13 (X.1 13)) 11 (upd w_10 (6) (nI ((rdP (X.1 12) L k [100, 32, 100] 0 p_9 (X.1 14)).2.1)))) 14 ((rdP (X.1 12) L k [100, 32, 100] 0 p_9 (X.1 14)).2.2) := h_41
    obtain ⟨p_49, ep_49⟩ : ∃ Z9 : Nat, Z9 = (rdP (X.1 12) L k [100, 32, 100] 0 p_9 (X.1 14)).2.1 := ⟨_, rfl⟩
    rw [← ep_49] at h_41
    have bp_49 : p_9 ≤ p_49 ∧ p_49 ≤ L := by rw [ep_49]; exact rdP_le (by omega) (by omega)
    subst h_48
    obtain ⟨w_50, ew_50⟩ : ∃ Z9, Z9 = upd w_10 (6) (nI p_49) := ⟨_, rfl⟩
    obtain ⟨w_51, ew_51⟩ : ∃ Z9, Z9 = (rdP (X.1 12) L k [100, 32, 100] 0 p_9 (X.1 14)).2.2 := ⟨_, rfl⟩
    have qqw_50 := h_41
    rw [← ew_50, ← ew_51] at qqw_50
    have hW_52 : Wd G (setRow (setRow (setRow X 11 w_50) 14 w_51) 13 (X.1 13)) H_44 := Wd.cast ((qqw_50.trans (congrArg (fun Z9 => setRow (Z9) 14 w_51) (sr_in (by decide) (sr_in (by decide) sr_out)))).trans (sr_in (by decide) sr_out)) hW_46
    have kn_53 : w_50 (5) = nI L := by rw [ew_50]; exact (kp_upd (by omega)).trans kn_12
    have kn_54 : w_50 (6) = nI p_49 := by rw [ew_50]; exact pk_us
    refine lv_if_ne (tgt := 28) hx hb dX5_readCommand_23 (by decide) (fun b_55 => ?_) (fun b_55 => ?_)
    · refine lv_aload_n hx hb dX5_readCommand_28 rfl (lv_at hl_40 1 rfl) ?_
      refine gSc_commands C hW_52 (hwc hwX5) (mc qw_234) dX5_readCommand_29 ?_
      refine lv_iload_n hx hb dX5_readCommand_32 rfl (lv_at hl_40 2 rfl) ?_
      refine lv_aload_n hx hb dX5_readCommand_33 rfl (lv_at hl_40 0 rfl) ?_
      refine g_cmdst C hW_52 hS_47 k (nI_clamp (by omega)) (vp_in_nI hk (by decide)) (by decide) dX5_readCommand_34 (fun H_56 locs_57 hW_58 hS_59 => ?_)
      obtain ⟨w_60, ew_60⟩ : ∃ Z9, Z9 = upd (X.1 13) (k) (nI (1 + 1)) := ⟨_, rfl⟩
      have hW_61 : Wd G (setRow (setRow (setRow X 11 w_50) 14 w_51) 13 w_60) H_56 := Wd.cast (by rw [ew_60]; exact st_out) hW_58
      refine lv_iconst (v := 1) hx hb dX5_readCommand_35 (by decide) ?_
      exact g_zret C hr hlk hW_61 hS_59 dX5_readCommand_36 rfl (by subst ew_60; subst ew_51; subst ew_50; subst ep_49; subst ew_10; subst ep_9; exact ⟨by simp only [rcR, formL, uu6, h9, b_55, if_true, if_false]; first | done | rfl, by simp only [rcR, formL, uu6, h9, b_55, if_true, if_false]; first | done | rfl⟩)
    · refine lv_iconst (v := 0) hx hb dX5_readCommand_26 (by decide) ?_
      exact g_zret C hr hlk hW_52 hS_47 dX5_readCommand_27 rfl (by subst ew_51; subst ew_50; subst ep_49; subst ew_10; subst ep_9; exact ⟨by simp only [rcR, formL, uu6, h9, b_55, if_true, if_false]; first | done | rfl, by simp only [rcR, formL, uu6, h9, b_55, if_true, if_false]; first | done | rfl⟩)
  · refine g_topv (y := .ref (cy G (20 + 2))) rfl ?_
    refine lv_astore_n (lv' := [(2, .ref (cy G (20 + 2))), (0, .ref (ad G 718)), (1, .int (nI k))]) hx hb dX5_readCommand_4 rfl hl (by decide) rfl (fun ls_62 hl_63 => ?_)
    refine lv_aload_n hx hb dX5_readCommand_5 rfl (lv_at hl_63 0 rfl) ?_
    refine lv_ifnull hx hb dX5_readCommand_6 ?_
    refine lv_aload_n hx hb dX5_readCommand_9 rfl (lv_at hl_63 1 rfl) ?_
    refine lv_aload_n hx hb dX5_readCommand_10 rfl (lv_at hl_63 0 rfl) ?_
    refine g_efN C hS_7 C.2.2.2.2.2.2.2.2.2.2.2.2.1 (i := 2) (by decide) nw_23 dX5_readCommand_11 ?_
    refine g_topv (y := .ref (cy G (50 + 12))) rfl ?_
    refine lv_aload_n hx hb dX5_readCommand_14 rfl (lv_at hl_63 1 rfl) ?_
    refine gSc_arguments C hW_11 (hwc hwX5) (mc qw_236) dX5_readCommand_15 ?_
    refine lv_iload_n hx hb dX5_readCommand_18 rfl (lv_at hl_63 2 rfl) ?_
    refine g_args C hW_11 k (nI_clamp (by omega)) (vp_in_nI hk (by decide)) dX5_readCommand_19 ?_
    refine g_calli (va_runV (As := [.ref (cy G (50 + 12)), .ref (ad G (738 + k))]) (rest := []) C.1 (cX5_readArguments12_ok l G (setRow (setRow (setRow X 11 w_10) 14 (X.1 14)) 13 (X.1 13)) L p_9 hL (by omega) ((congrFun (rd_in (by decide) (rd_in (by decide) rd_out)) _).trans kn_12) ((congrFun (rd_in (by decide) (rd_in (by decide) rd_out)) _).trans kn_13) k hk) (cwV 2 C.1.2.2.2.2 (gV qw_1390 qw_1392 qw_22 qw_76 qw_1393) rfl rfl rfl (by decide +kernel) ⟨Nat.le_of_ble_eq_true rfl, Nat.le_of_ble_eq_true rfl⟩) (g_rScript C hW_11 hS_7 [.ref (cy G (50 + 12)), .ref (ad G (738 + k))]) rfl rfl hl_63.1 rfl (lv_room (Nat.le_of_ble_eq_true rfl)) dX5_readCommand_20 ⟨Nat.zero_le _, Nat.zero_le _⟩) hS_7 (fun r_65 Y_66 H_67 locs_68 hW_69 hS_70 h_64 => ?_)
    obtain ⟨h_71, h_64⟩ := h_64
    replace h_71 : r_65 = (rdP (X.1 12) L k [100] 0 p_9 (X.1 14)).1 := h_71
    replace h_64 : Y_66 = setRow (setRow (setRow (setRow (setRow X 11 w_10) 14 (X.1 14)) 13 (X.1 13)) 11 (upd w_10 (6) (nI ((rdP (X.1 12) L k [100] 0 p_9 (X.1 14)).2.1)))) 14 ((rdP (X.1 12) L k [100] 0 p_9 (X.1 14)).2.2) := h_64
    obtain ⟨p_72, ep_72⟩ : ∃ Z9 : Nat, Z9 = (rdP (X.1 12) L k [100] 0 p_9 (X.1 14)).2.1 := ⟨_, rfl⟩
    rw [← ep_72] at h_64
    have bp_72 : p_9 ≤ p_72 ∧ p_72 ≤ L := by rw [ep_72]; exact rdP_le (by omega) (by omega)
    subst h_71
    obtain ⟨w_73, ew_73⟩ : ∃ Z9, Z9 = upd w_10 (6) (nI p_72) := ⟨_, rfl⟩
    obtain ⟨w_74, ew_74⟩ : ∃ Z9, Z9 = (rdP (X.1 12) L k [100] 0 p_9 (X.1 14)).2.2 := ⟨_, rfl⟩
    have qqw_73 := h_64
    rw [← ew_73, ← ew_74] at qqw_73
    have hW_75 : Wd G (setRow (setRow (setRow X 11 w_73) 14 w_74) 13 (X.1 13)) H_67 := Wd.cast ((qqw_73.trans (congrArg (fun Z9 => setRow (Z9) 14 w_74) (sr_in (by decide) (sr_in (by decide) sr_out)))).trans (sr_in (by decide) sr_out)) hW_69
    have kn_76 : w_73 (5) = nI L := by rw [ew_73]; exact (kp_upd (by omega)).trans kn_12
    have kn_77 : w_73 (6) = nI p_72 := by rw [ew_73]; exact pk_us
    refine lv_if_ne (tgt := 28) hx hb dX5_readCommand_23 (by decide) (fun b_78 => ?_) (fun b_78 => ?_)
    · refine lv_aload_n hx hb dX5_readCommand_28 rfl (lv_at hl_63 1 rfl) ?_
      refine gSc_commands C hW_75 (hwc hwX5) (mc qw_234) dX5_readCommand_29 ?_
      refine lv_iload_n hx hb dX5_readCommand_32 rfl (lv_at hl_63 2 rfl) ?_
      refine lv_aload_n hx hb dX5_readCommand_33 rfl (lv_at hl_63 0 rfl) ?_
      refine g_cmdst C hW_75 hS_70 k (nI_clamp (by omega)) (vp_in_nI hk (by decide)) (by decide) dX5_readCommand_34 (fun H_79 locs_80 hW_81 hS_82 => ?_)
      obtain ⟨w_83, ew_83⟩ : ∃ Z9, Z9 = upd (X.1 13) (k) (nI (2 + 1)) := ⟨_, rfl⟩
      have hW_84 : Wd G (setRow (setRow (setRow X 11 w_73) 14 w_74) 13 w_83) H_79 := Wd.cast (by rw [ew_83]; exact st_out) hW_81
      refine lv_iconst (v := 1) hx hb dX5_readCommand_35 (by decide) ?_
      exact g_zret C hr hlk hW_84 hS_82 dX5_readCommand_36 rfl (by subst ew_83; subst ew_74; subst ew_73; subst ep_72; subst ew_10; subst ep_9; exact ⟨by simp only [rcR, formL, uu6, h9, b_78, if_true, if_false]; first | done | rfl, by simp only [rcR, formL, uu6, h9, b_78, if_true, if_false]; first | done | rfl⟩)
    · refine lv_iconst (v := 0) hx hb dX5_readCommand_26 (by decide) ?_
      exact g_zret C hr hlk hW_75 hS_70 dX5_readCommand_27 rfl (by subst ew_74; subst ew_73; subst ep_72; subst ew_10; subst ep_9; exact ⟨by simp only [rcR, formL, uu6, h9, b_78, if_true, if_false]; first | done | rfl, by simp only [rcR, formL, uu6, h9, b_78, if_true, if_false]; first | done | rfl⟩)
  · refine g_topv (y := .ref (cy G (20 + 3))) rfl ?_
    refine lv_astore_n (lv' := [(2, .ref (cy G (20 + 3))), (0, .ref (ad G 718)), (1, .int (nI k))]) hx hb dX5_readCommand_4 rfl hl (by decide) rfl (fun ls_85 hl_86 => ?_)
    refine lv_aload_n hx hb dX5_readCommand_5 rfl (lv_at hl_86 0 rfl) ?_
    refine lv_ifnull hx hb dX5_readCommand_6 ?_
    refine lv_aload_n hx hb dX5_readCommand_9 rfl (lv_at hl_86 1 rfl) ?_
    refine lv_aload_n hx hb dX5_readCommand_10 rfl (lv_at hl_86 0 rfl) ?_
    refine g_efN C hS_7 C.2.2.2.2.2.2.2.2.2.2.2.2.1 (i := 3) (by decide) nw_23 dX5_readCommand_11 ?_
    refine g_topv (y := .ref (cy G (50 + 13))) rfl ?_
    refine lv_aload_n hx hb dX5_readCommand_14 rfl (lv_at hl_86 1 rfl) ?_
    refine gSc_arguments C hW_11 (hwc hwX5) (mc qw_236) dX5_readCommand_15 ?_
    refine lv_iload_n hx hb dX5_readCommand_18 rfl (lv_at hl_86 2 rfl) ?_
    refine g_args C hW_11 k (nI_clamp (by omega)) (vp_in_nI hk (by decide)) dX5_readCommand_19 ?_
    refine g_calli (va_runV (As := [.ref (cy G (50 + 13)), .ref (ad G (738 + k))]) (rest := []) C.1 (cX5_readArguments13_ok l G (setRow (setRow (setRow X 11 w_10) 14 (X.1 14)) 13 (X.1 13)) L p_9 hL (by omega) ((congrFun (rd_in (by decide) (rd_in (by decide) rd_out)) _).trans kn_12) ((congrFun (rd_in (by decide) (rd_in (by decide) rd_out)) _).trans kn_13) k hk) (cwV 2 C.1.2.2.2.2 (gV qw_1390 qw_1392 qw_22 qw_76 qw_1393) rfl rfl rfl (by decide +kernel) ⟨Nat.le_of_ble_eq_true rfl, Nat.le_of_ble_eq_true rfl⟩) (g_rScript C hW_11 hS_7 [.ref (cy G (50 + 13)), .ref (ad G (738 + k))]) rfl rfl hl_86.1 rfl (lv_room (Nat.le_of_ble_eq_true rfl)) dX5_readCommand_20 ⟨Nat.zero_le _, Nat.zero_le _⟩) hS_7 (fun r_88 Y_89 H_90 locs_91 hW_92 hS_93 h_87 => ?_)
    obtain ⟨h_94, h_87⟩ := h_87
    replace h_94 : r_88 = (rdP (X.1 12) L k [100, 32, 100, 32, 110] 0 p_9 (X.1 14)).1 := h_94
    replace h_87 : Y_89 = setRow (setRow (setRow (setRow (setRow X 11 w_10) 14 (X.1 14)) 13 (X.1 13)) 11 (upd w_10 (6) (nI ((rdP (X.1 12) L k [100, 32, 100, 32, 110] 0 p_9 (X.1 14)).2.1)))) 14 ((rdP (X.1 12) L k [100, 32, 100, 32, 110] 0 p_9 (X.1 14)).2.2) := h_87
    obtain ⟨p_95, ep_95⟩ : ∃ Z9 : Nat, Z9 = (rdP (X.1 12) L k [100, 32, 100, 32, 110] 0 p_9 (X.1 14)).2.1 := ⟨_, rfl⟩
    rw [← ep_95] at h_87
    have bp_95 : p_9 ≤ p_95 ∧ p_95 ≤ L := by rw [ep_95]; exact rdP_le (by omega) (by omega)
    subst h_94
    obtain ⟨w_96, ew_96⟩ : ∃ Z9, Z9 = upd w_10 (6) (nI p_95) := ⟨_, rfl⟩
    obtain ⟨w_97, ew_97⟩ : ∃ Z9, Z9 = (rdP (X.1 12) L k [100, 32, 100, 32, 110] 0 p_9 (X.1 14)).2.2 := ⟨_, rfl⟩
    have qqw_96 := h_87
    rw [← ew_96, ← ew_97] at qqw_96
    have hW_98 : Wd G (setRow (setRow (setRow X 11 w_96) 14 w_97) 13 (X.1 13)) H_90 := Wd.cast ((qqw_96.trans (congrArg (fun Z9 => setRow (Z9) 14 w_97) (sr_in (by decide) (sr_in (by decide) sr_out)))).trans (sr_in (by decide) sr_out)) hW_92
    have kn_99 : w_96 (5) = nI L := by rw [ew_96]; exact (kp_upd (by omega)).trans kn_12
    have kn_100 : w_96 (6) = nI p_95 := by rw [ew_96]; exact pk_us
    refine lv_if_ne (tgt := 28) hx hb dX5_readCommand_23 (by decide) (fun b_101 => ?_) (fun b_101 => ?_)
    · refine lv_aload_n hx hb dX5_readCommand_28 rfl (lv_at hl_86 1 rfl) ?_
      refine gSc_commands C hW_98 (hwc hwX5) (mc qw_234) dX5_readCommand_29 ?_
      refine lv_iload_n hx hb dX5_readCommand_32 rfl (lv_at hl_86 2 rfl) ?_
      refine lv_aload_n hx hb dX5_readCommand_33 rfl (lv_at hl_86 0 rfl) ?_
      refine g_cmdst C hW_98 hS_93 k (nI_clamp (by omega)) (vp_in_nI hk (by decide)) (by decide) dX5_readCommand_34 (fun H_102 locs_103 hW_104 hS_105 => ?_)
      obtain ⟨w_106, ew_106⟩ : ∃ Z9, Z9 = upd (X.1 13) (k) (nI (3 + 1)) := ⟨_, rfl⟩
      have hW_107 : Wd G (setRow (setRow (setRow X 11 w_96) 14 w_97) 13 w_106) H_102 := Wd.cast (by rw [ew_106]; exact st_out) hW_104
      refine lv_iconst (v := 1) hx hb dX5_readCommand_35 (by decide) ?_
      exact g_zret C hr hlk hW_107 hS_105 dX5_readCommand_36 rfl (by subst ew_106; subst ew_97; subst ew_96; subst ep_95; subst ew_10; subst ep_9; exact ⟨by simp only [rcR, formL, uu6, h9, b_101, if_true, if_false]; first | done | rfl, by simp only [rcR, formL, uu6, h9, b_101, if_true, if_false]; first | done | rfl⟩)
    · refine lv_iconst (v := 0) hx hb dX5_readCommand_26 (by decide) ?_
      exact g_zret C hr hlk hW_98 hS_93 dX5_readCommand_27 rfl (by subst ew_97; subst ew_96; subst ep_95; subst ew_10; subst ep_9; exact ⟨by simp only [rcR, formL, uu6, h9, b_101, if_true, if_false]; first | done | rfl, by simp only [rcR, formL, uu6, h9, b_101, if_true, if_false]; first | done | rfl⟩)
  · refine g_topv (y := .ref (cy G (20 + 4))) rfl ?_
    refine lv_astore_n (lv' := [(2, .ref (cy G (20 + 4))), (0, .ref (ad G 718)), (1, .int (nI k))]) hx hb dX5_readCommand_4 rfl hl (by decide) rfl (fun ls_108 hl_109 => ?_)
    refine lv_aload_n hx hb dX5_readCommand_5 rfl (lv_at hl_109 0 rfl) ?_
    refine lv_ifnull hx hb dX5_readCommand_6 ?_
    refine lv_aload_n hx hb dX5_readCommand_9 rfl (lv_at hl_109 1 rfl) ?_
    refine lv_aload_n hx hb dX5_readCommand_10 rfl (lv_at hl_109 0 rfl) ?_
    refine g_efN C hS_7 C.2.2.2.2.2.2.2.2.2.2.2.2.1 (i := 4) (by decide) nw_23 dX5_readCommand_11 ?_
    refine g_topv (y := .ref (cy G (50 + 11))) rfl ?_
    refine lv_aload_n hx hb dX5_readCommand_14 rfl (lv_at hl_109 1 rfl) ?_
    refine gSc_arguments C hW_11 (hwc hwX5) (mc qw_236) dX5_readCommand_15 ?_
    refine lv_iload_n hx hb dX5_readCommand_18 rfl (lv_at hl_109 2 rfl) ?_
    refine g_args C hW_11 k (nI_clamp (by omega)) (vp_in_nI hk (by decide)) dX5_readCommand_19 ?_
    refine g_calli (va_runV (As := [.ref (cy G (50 + 11)), .ref (ad G (738 + k))]) (rest := []) C.1 (cX5_readArguments11_ok l G (setRow (setRow (setRow X 11 w_10) 14 (X.1 14)) 13 (X.1 13)) L p_9 hL (by omega) ((congrFun (rd_in (by decide) (rd_in (by decide) rd_out)) _).trans kn_12) ((congrFun (rd_in (by decide) (rd_in (by decide) rd_out)) _).trans kn_13) k hk) (cwV 2 C.1.2.2.2.2 (gV qw_1390 qw_1392 qw_22 qw_76 qw_1393) rfl rfl rfl (by decide +kernel) ⟨Nat.le_of_ble_eq_true rfl, Nat.le_of_ble_eq_true rfl⟩) (g_rScript C hW_11 hS_7 [.ref (cy G (50 + 11)), .ref (ad G (738 + k))]) rfl rfl hl_109.1 rfl (lv_room (Nat.le_of_ble_eq_true rfl)) dX5_readCommand_20 ⟨Nat.zero_le _, Nat.zero_le _⟩) hS_7 (fun r_111 Y_112 H_113 locs_114 hW_115 hS_116 h_110 => ?_)
    obtain ⟨h_117, h_110⟩ := h_110
    replace h_117 : r_111 = (rdP (X.1 12) L k [100, 32, 100] 0 p_9 (X.1 14)).1 := h_117
    replace h_110 : Y_112 = setRow (setRow (setRow (setRow (setRow X 11 w_10) 14 (X.1 14)) 13 (X.1 13)) 11 (upd w_10 (6) (nI ((rdP (X.1 12) L k [100, 32, 100] 0 p_9 (X.1 14)).2.1)))) 14 ((rdP (X.1 12) L k [100, 32, 100] 0 p_9 (X.1 14)).2.2) := h_110
    obtain ⟨p_118, ep_118⟩ : ∃ Z9 : Nat, Z9 = (rdP (X.1 12) L k [100, 32, 100] 0 p_9 (X.1 14)).2.1 := ⟨_, rfl⟩
    rw [← ep_118] at h_110
    have bp_118 : p_9 ≤ p_118 ∧ p_118 ≤ L := by rw [ep_118]; exact rdP_le (by omega) (by omega)
    subst h_117
    obtain ⟨w_119, ew_119⟩ : ∃ Z9, Z9 = upd w_10 (6) (nI p_118) := ⟨_, rfl⟩
    obtain ⟨w_120, ew_120⟩ : ∃ Z9, Z9 = (rdP (X.1 12) L k [100, 32, 100] 0 p_9 (X.1 14)).2.2 := ⟨_, rfl⟩
    have qqw_119 := h_110
    rw [← ew_119, ← ew_120] at qqw_119
    have hW_121 : Wd G (setRow (setRow (setRow X 11 w_119) 14 w_120) 13 (X.1 13)) H_113 := Wd.cast ((qqw_119.trans (congrArg (fun Z9 => setRow (Z9) 14 w_120) (sr_in (by decide) (sr_in (by decide) sr_out)))).trans (sr_in (by decide) sr_out)) hW_115
    have kn_122 : w_119 (5) = nI L := by rw [ew_119]; exact (kp_upd (by omega)).trans kn_12
    have kn_123 : w_119 (6) = nI p_118 := by rw [ew_119]; exact pk_us
    refine lv_if_ne (tgt := 28) hx hb dX5_readCommand_23 (by decide) (fun b_124 => ?_) (fun b_124 => ?_)
    · refine lv_aload_n hx hb dX5_readCommand_28 rfl (lv_at hl_109 1 rfl) ?_
      refine gSc_commands C hW_121 (hwc hwX5) (mc qw_234) dX5_readCommand_29 ?_
      refine lv_iload_n hx hb dX5_readCommand_32 rfl (lv_at hl_109 2 rfl) ?_
      refine lv_aload_n hx hb dX5_readCommand_33 rfl (lv_at hl_109 0 rfl) ?_
      refine g_cmdst C hW_121 hS_116 k (nI_clamp (by omega)) (vp_in_nI hk (by decide)) (by decide) dX5_readCommand_34 (fun H_125 locs_126 hW_127 hS_128 => ?_)
      obtain ⟨w_129, ew_129⟩ : ∃ Z9, Z9 = upd (X.1 13) (k) (nI (4 + 1)) := ⟨_, rfl⟩
      have hW_130 : Wd G (setRow (setRow (setRow X 11 w_119) 14 w_120) 13 w_129) H_125 := Wd.cast (by rw [ew_129]; exact st_out) hW_127
      refine lv_iconst (v := 1) hx hb dX5_readCommand_35 (by decide) ?_
      exact g_zret C hr hlk hW_130 hS_128 dX5_readCommand_36 rfl (by subst ew_129; subst ew_120; subst ew_119; subst ep_118; subst ew_10; subst ep_9; exact ⟨by simp only [rcR, formL, uu6, h9, b_124, if_true, if_false]; first | done | rfl, by simp only [rcR, formL, uu6, h9, b_124, if_true, if_false]; first | done | rfl⟩)
    · refine lv_iconst (v := 0) hx hb dX5_readCommand_26 (by decide) ?_
      exact g_zret C hr hlk hW_121 hS_116 dX5_readCommand_27 rfl (by subst ew_120; subst ew_119; subst ep_118; subst ew_10; subst ep_9; exact ⟨by simp only [rcR, formL, uu6, h9, b_124, if_true, if_false]; first | done | rfl, by simp only [rcR, formL, uu6, h9, b_124, if_true, if_false]; first | done | rfl⟩)
  · refine g_topv (y := .ref (cy G (20 + 5))) rfl ?_
    refine lv_astore_n (lv' := [(2, .ref (cy G (20 + 5))), (0, .ref (ad G 718)), (1, .int (nI k))]) hx hb dX5_readCommand_4 rfl hl (by decide) rfl (fun ls_131 hl_132 => ?_)
    refine lv_aload_n hx hb dX5_readCommand_5 rfl (lv_at hl_132 0 rfl) ?_
    refine lv_ifnull hx hb dX5_readCommand_6 ?_
    refine lv_aload_n hx hb dX5_readCommand_9 rfl (lv_at hl_132 1 rfl) ?_
    refine lv_aload_n hx hb dX5_readCommand_10 rfl (lv_at hl_132 0 rfl) ?_
    refine g_efN C hS_7 C.2.2.2.2.2.2.2.2.2.2.2.2.1 (i := 5) (by decide) nw_23 dX5_readCommand_11 ?_
    refine g_topv (y := .ref (cy G (50 + 14))) rfl ?_
    refine lv_aload_n hx hb dX5_readCommand_14 rfl (lv_at hl_132 1 rfl) ?_
    refine gSc_arguments C hW_11 (hwc hwX5) (mc qw_236) dX5_readCommand_15 ?_
    refine lv_iload_n hx hb dX5_readCommand_18 rfl (lv_at hl_132 2 rfl) ?_
    refine g_args C hW_11 k (nI_clamp (by omega)) (vp_in_nI hk (by decide)) dX5_readCommand_19 ?_
    refine g_calli (va_runV (As := [.ref (cy G (50 + 14)), .ref (ad G (738 + k))]) (rest := []) C.1 (cX5_readArguments14_ok l G (setRow (setRow (setRow X 11 w_10) 14 (X.1 14)) 13 (X.1 13)) L p_9 hL (by omega) ((congrFun (rd_in (by decide) (rd_in (by decide) rd_out)) _).trans kn_12) ((congrFun (rd_in (by decide) (rd_in (by decide) rd_out)) _).trans kn_13) k hk) (cwV 2 C.1.2.2.2.2 (gV qw_1390 qw_1392 qw_22 qw_76 qw_1393) rfl rfl rfl (by decide +kernel) ⟨Nat.le_of_ble_eq_true rfl, Nat.le_of_ble_eq_true rfl⟩) (g_rScript C hW_11 hS_7 [.ref (cy G (50 + 14)), .ref (ad G (738 + k))]) rfl rfl hl_132.1 rfl (lv_room (Nat.le_of_ble_eq_true rfl)) dX5_readCommand_20 ⟨Nat.zero_le _, Nat.zero_le _⟩) hS_7 (fun r_134 Y_135 H_136 locs_137 hW_138 hS_139 h_133 => ?_)
    obtain ⟨h_140, h_133⟩ := h_133
    replace h_140 : r_134 = (rdP (X.1 12) L k [110] 0 p_9 (X.1 14)).1 := h_140
    replace h_133 : Y_135 = setRow (setRow (setRow (setRow (setRow X 11 w_10) 14 (X.1 14)) 13 (X.1 13)) 11 (upd w_10 (6) (nI ((rdP (X.1 12) L k [110] 0 p_9 (X.1 14)).2.1)))) 14 ((rdP (X.1 12) L k [110] 0 p_9 (X.1 14)).2.2) := h_133
    obtain ⟨p_141, ep_141⟩ : ∃ Z9 : Nat, Z9 = (rdP (X.1 12) L k [110] 0 p_9 (X.1 14)).2.1 := ⟨_, rfl⟩
    rw [← ep_141] at h_133
    have bp_141 : p_9 ≤ p_141 ∧ p_141 ≤ L := by rw [ep_141]; exact rdP_le (by omega) (by omega)
    subst h_140
    obtain ⟨w_142, ew_142⟩ : ∃ Z9, Z9 = upd w_10 (6) (nI p_141) := ⟨_, rfl⟩
    obtain ⟨w_143, ew_143⟩ : ∃ Z9, Z9 = (rdP (X.1 12) L k [110] 0 p_9 (X.1 14)).2.2 := ⟨_, rfl⟩
    have qqw_142 := h_133
    rw [← ew_142, ← ew_143] at qqw_142
    have hW_144 : Wd G (setRow (setRow (setRow X 11 w_142) 14 w_143) 13 (X.1 13)) H_136 := Wd.cast ((qqw_142.trans (congrArg (fun Z9 => setRow (Z9) 14 w_143) (sr_in (by decide) (sr_in (by decide) sr_out)))).trans (sr_in (by decide) sr_out)) hW_138
    have kn_145 : w_142 (5) = nI L := by rw [ew_142]; exact (kp_upd (by omega)).trans kn_12
    have kn_146 : w_142 (6) = nI p_141 := by rw [ew_142]; exact pk_us
    refine lv_if_ne (tgt := 28) hx hb dX5_readCommand_23 (by decide) (fun b_147 => ?_) (fun b_147 => ?_)
    · refine lv_aload_n hx hb dX5_readCommand_28 rfl (lv_at hl_132 1 rfl) ?_
      refine gSc_commands C hW_144 (hwc hwX5) (mc qw_234) dX5_readCommand_29 ?_
      refine lv_iload_n hx hb dX5_readCommand_32 rfl (lv_at hl_132 2 rfl) ?_
      refine lv_aload_n hx hb dX5_readCommand_33 rfl (lv_at hl_132 0 rfl) ?_
      refine g_cmdst C hW_144 hS_139 k (nI_clamp (by omega)) (vp_in_nI hk (by decide)) (by decide) dX5_readCommand_34 (fun H_148 locs_149 hW_150 hS_151 => ?_)
      obtain ⟨w_152, ew_152⟩ : ∃ Z9, Z9 = upd (X.1 13) (k) (nI (5 + 1)) := ⟨_, rfl⟩
      have hW_153 : Wd G (setRow (setRow (setRow X 11 w_142) 14 w_143) 13 w_152) H_148 := Wd.cast (by rw [ew_152]; exact st_out) hW_150
      refine lv_iconst (v := 1) hx hb dX5_readCommand_35 (by decide) ?_
      exact g_zret C hr hlk hW_153 hS_151 dX5_readCommand_36 rfl (by subst ew_152; subst ew_143; subst ew_142; subst ep_141; subst ew_10; subst ep_9; exact ⟨by simp only [rcR, formL, uu6, h9, b_147, if_true, if_false]; first | done | rfl, by simp only [rcR, formL, uu6, h9, b_147, if_true, if_false]; first | done | rfl⟩)
    · refine lv_iconst (v := 0) hx hb dX5_readCommand_26 (by decide) ?_
      exact g_zret C hr hlk hW_144 hS_139 dX5_readCommand_27 rfl (by subst ew_143; subst ew_142; subst ep_141; subst ew_10; subst ep_9; exact ⟨by simp only [rcR, formL, uu6, h9, b_147, if_true, if_false]; first | done | rfl, by simp only [rcR, formL, uu6, h9, b_147, if_true, if_false]; first | done | rfl⟩)
  · refine g_topv (y := .ref (cy G (20 + 6))) rfl ?_
    refine lv_astore_n (lv' := [(2, .ref (cy G (20 + 6))), (0, .ref (ad G 718)), (1, .int (nI k))]) hx hb dX5_readCommand_4 rfl hl (by decide) rfl (fun ls_154 hl_155 => ?_)
    refine lv_aload_n hx hb dX5_readCommand_5 rfl (lv_at hl_155 0 rfl) ?_
    refine lv_ifnull hx hb dX5_readCommand_6 ?_
    refine lv_aload_n hx hb dX5_readCommand_9 rfl (lv_at hl_155 1 rfl) ?_
    refine lv_aload_n hx hb dX5_readCommand_10 rfl (lv_at hl_155 0 rfl) ?_
    refine g_efN C hS_7 C.2.2.2.2.2.2.2.2.2.2.2.2.1 (i := 6) (by decide) nw_23 dX5_readCommand_11 ?_
    refine g_topv (y := .ref (cy G (50 + 11))) rfl ?_
    refine lv_aload_n hx hb dX5_readCommand_14 rfl (lv_at hl_155 1 rfl) ?_
    refine gSc_arguments C hW_11 (hwc hwX5) (mc qw_236) dX5_readCommand_15 ?_
    refine lv_iload_n hx hb dX5_readCommand_18 rfl (lv_at hl_155 2 rfl) ?_
    refine g_args C hW_11 k (nI_clamp (by omega)) (vp_in_nI hk (by decide)) dX5_readCommand_19 ?_
    refine g_calli (va_runV (As := [.ref (cy G (50 + 11)), .ref (ad G (738 + k))]) (rest := []) C.1 (cX5_readArguments11_ok l G (setRow (setRow (setRow X 11 w_10) 14 (X.1 14)) 13 (X.1 13)) L p_9 hL (by omega) ((congrFun (rd_in (by decide) (rd_in (by decide) rd_out)) _).trans kn_12) ((congrFun (rd_in (by decide) (rd_in (by decide) rd_out)) _).trans kn_13) k hk) (cwV 2 C.1.2.2.2.2 (gV qw_1390 qw_1392 qw_22 qw_76 qw_1393) rfl rfl rfl (by decide +kernel) ⟨Nat.le_of_ble_eq_true rfl, Nat.le_of_ble_eq_true rfl⟩) (g_rScript C hW_11 hS_7 [.ref (cy G (50 + 11)), .ref (ad G (738 + k))]) rfl rfl hl_155.1 rfl (lv_room (Nat.le_of_ble_eq_true rfl)) dX5_readCommand_20 ⟨Nat.zero_le _, Nat.zero_le _⟩) hS_7 (fun r_157 Y_158 H_159 locs_160 hW_161 hS_162 h_156 => ?_)
    obtain ⟨h_163, h_156⟩ := h_156
    replace h_163 : r_157 = (rdP (X.1 12) L k [100, 32, 100] 0 p_9 (X.1 14)).1 := h_163
    replace h_156 : Y_158 = setRow (setRow (setRow (setRow (setRow X 11 w_10) 14 (X.1 14)) 13 (X.1 13)) 11 (upd w_10 (6) (nI ((rdP (X.1 12) L k [100, 32, 100] 0 p_9 (X.1 14)).2.1)))) 14 ((rdP (X.1 12) L k [100, 32, 100] 0 p_9 (X.1 14)).2.2) := h_156
    obtain ⟨p_164, ep_164⟩ : ∃ Z9 : Nat, Z9 = (rdP (X.1 12) L k [100, 32, 100] 0 p_9 (X.1 14)).2.1 := ⟨_, rfl⟩
    rw [← ep_164] at h_156
    have bp_164 : p_9 ≤ p_164 ∧ p_164 ≤ L := by rw [ep_164]; exact rdP_le (by omega) (by omega)
    subst h_163
    obtain ⟨w_165, ew_165⟩ : ∃ Z9, Z9 = upd w_10 (6) (nI p_164) := ⟨_, rfl⟩
    obtain ⟨w_166, ew_166⟩ : ∃ Z9, Z9 = (rdP (X.1 12) L k [100, 32, 100] 0 p_9 (X.1 14)).2.2 := ⟨_, rfl⟩
    have qqw_165 := h_156
    rw [← ew_165, ← ew_166] at qqw_165
    have hW_167 : Wd G (setRow (setRow (setRow X 11 w_165) 14 w_166) 13 (X.1 13)) H_159 := Wd.cast ((qqw_165.trans (congrArg (fun Z9 => setRow (Z9) 14 w_166) (sr_in (by decide) (sr_in (by decide) sr_out)))).trans (sr_in (by decide) sr_out)) hW_161
    have kn_168 : w_165 (5) = nI L := by rw [ew_165]; exact (kp_upd (by omega)).trans kn_12
    have kn_169 : w_165 (6) = nI p_164 := by rw [ew_165]; exact pk_us
    refine lv_if_ne (tgt := 28) hx hb dX5_readCommand_23 (by decide) (fun b_170 => ?_) (fun b_170 => ?_)
    · refine lv_aload_n hx hb dX5_readCommand_28 rfl (lv_at hl_155 1 rfl) ?_
      refine gSc_commands C hW_167 (hwc hwX5) (mc qw_234) dX5_readCommand_29 ?_
      refine lv_iload_n hx hb dX5_readCommand_32 rfl (lv_at hl_155 2 rfl) ?_
      refine lv_aload_n hx hb dX5_readCommand_33 rfl (lv_at hl_155 0 rfl) ?_
      refine g_cmdst C hW_167 hS_162 k (nI_clamp (by omega)) (vp_in_nI hk (by decide)) (by decide) dX5_readCommand_34 (fun H_171 locs_172 hW_173 hS_174 => ?_)
      obtain ⟨w_175, ew_175⟩ : ∃ Z9, Z9 = upd (X.1 13) (k) (nI (6 + 1)) := ⟨_, rfl⟩
      have hW_176 : Wd G (setRow (setRow (setRow X 11 w_165) 14 w_166) 13 w_175) H_171 := Wd.cast (by rw [ew_175]; exact st_out) hW_173
      refine lv_iconst (v := 1) hx hb dX5_readCommand_35 (by decide) ?_
      exact g_zret C hr hlk hW_176 hS_174 dX5_readCommand_36 rfl (by subst ew_175; subst ew_166; subst ew_165; subst ep_164; subst ew_10; subst ep_9; exact ⟨by simp only [rcR, formL, uu6, h9, b_170, if_true, if_false]; first | done | rfl, by simp only [rcR, formL, uu6, h9, b_170, if_true, if_false]; first | done | rfl⟩)
    · refine lv_iconst (v := 0) hx hb dX5_readCommand_26 (by decide) ?_
      exact g_zret C hr hlk hW_167 hS_162 dX5_readCommand_27 rfl (by subst ew_166; subst ew_165; subst ep_164; subst ew_10; subst ep_9; exact ⟨by simp only [rcR, formL, uu6, h9, b_170, if_true, if_false]; first | done | rfl, by simp only [rcR, formL, uu6, h9, b_170, if_true, if_false]; first | done | rfl⟩)
  · refine g_topv (y := .ref (cy G (20 + 7))) rfl ?_
    refine lv_astore_n (lv' := [(2, .ref (cy G (20 + 7))), (0, .ref (ad G 718)), (1, .int (nI k))]) hx hb dX5_readCommand_4 rfl hl (by decide) rfl (fun ls_177 hl_178 => ?_)
    refine lv_aload_n hx hb dX5_readCommand_5 rfl (lv_at hl_178 0 rfl) ?_
    refine lv_ifnull hx hb dX5_readCommand_6 ?_
    refine lv_aload_n hx hb dX5_readCommand_9 rfl (lv_at hl_178 1 rfl) ?_
    refine lv_aload_n hx hb dX5_readCommand_10 rfl (lv_at hl_178 0 rfl) ?_
    refine g_efN C hS_7 C.2.2.2.2.2.2.2.2.2.2.2.2.1 (i := 7) (by decide) nw_23 dX5_readCommand_11 ?_
    refine g_topv (y := .ref (cy G (50 + 12))) rfl ?_
    refine lv_aload_n hx hb dX5_readCommand_14 rfl (lv_at hl_178 1 rfl) ?_
    refine gSc_arguments C hW_11 (hwc hwX5) (mc qw_236) dX5_readCommand_15 ?_
    refine lv_iload_n hx hb dX5_readCommand_18 rfl (lv_at hl_178 2 rfl) ?_
    refine g_args C hW_11 k (nI_clamp (by omega)) (vp_in_nI hk (by decide)) dX5_readCommand_19 ?_
    refine g_calli (va_runV (As := [.ref (cy G (50 + 12)), .ref (ad G (738 + k))]) (rest := []) C.1 (cX5_readArguments12_ok l G (setRow (setRow (setRow X 11 w_10) 14 (X.1 14)) 13 (X.1 13)) L p_9 hL (by omega) ((congrFun (rd_in (by decide) (rd_in (by decide) rd_out)) _).trans kn_12) ((congrFun (rd_in (by decide) (rd_in (by decide) rd_out)) _).trans kn_13) k hk) (cwV 2 C.1.2.2.2.2 (gV qw_1390 qw_1392 qw_22 qw_76 qw_1393) rfl rfl rfl (by decide +kernel) ⟨Nat.le_of_ble_eq_true rfl, Nat.le_of_ble_eq_true rfl⟩) (g_rScript C hW_11 hS_7 [.ref (cy G (50 + 12)), .ref (ad G (738 + k))]) rfl rfl hl_178.1 rfl (lv_room (Nat.le_of_ble_eq_true rfl)) dX5_readCommand_20 ⟨Nat.zero_le _, Nat.zero_le _⟩) hS_7 (fun r_180 Y_181 H_182 locs_183 hW_184 hS_185 h_179 => ?_)
    obtain ⟨h_186, h_179⟩ := h_179
    replace h_186 : r_180 = (rdP (X.1 12) L k [100] 0 p_9 (X.1 14)).1 := h_186
    replace h_179 : Y_181 = setRow (setRow (setRow (setRow (setRow X 11 w_10) 14 (X.1 14)) 13 (X.1 13)) 11 (upd w_10 (6) (nI ((rdP (X.1 12) L k [100] 0 p_9 (X.1 14)).2.1)))) 14 ((rdP (X.1 12) L k [100] 0 p_9 (X.1 14)).2.2) := h_179
    obtain ⟨p_187, ep_187⟩ : ∃ Z9 : Nat, Z9 = (rdP (X.1 12) L k [100] 0 p_9 (X.1 14)).2.1 := ⟨_, rfl⟩
    rw [← ep_187] at h_179
    have bp_187 : p_9 ≤ p_187 ∧ p_187 ≤ L := by rw [ep_187]; exact rdP_le (by omega) (by omega)
    subst h_186
    obtain ⟨w_188, ew_188⟩ : ∃ Z9, Z9 = upd w_10 (6) (nI p_187) := ⟨_, rfl⟩
    obtain ⟨w_189, ew_189⟩ : ∃ Z9, Z9 = (rdP (X.1 12) L k [100] 0 p_9 (X.1 14)).2.2 := ⟨_, rfl⟩
    have qqw_188 := h_179
    rw [← ew_188, ← ew_189] at qqw_188
    have hW_190 : Wd G (setRow (setRow (setRow X 11 w_188) 14 w_189) 13 (X.1 13)) H_182 := Wd.cast ((qqw_188.trans (congrArg (fun Z9 => setRow (Z9) 14 w_189) (sr_in (by decide) (sr_in (by decide) sr_out)))).trans (sr_in (by decide) sr_out)) hW_184
    have kn_191 : w_188 (5) = nI L := by rw [ew_188]; exact (kp_upd (by omega)).trans kn_12
    have kn_192 : w_188 (6) = nI p_187 := by rw [ew_188]; exact pk_us
    refine lv_if_ne (tgt := 28) hx hb dX5_readCommand_23 (by decide) (fun b_193 => ?_) (fun b_193 => ?_)
    · refine lv_aload_n hx hb dX5_readCommand_28 rfl (lv_at hl_178 1 rfl) ?_
      refine gSc_commands C hW_190 (hwc hwX5) (mc qw_234) dX5_readCommand_29 ?_
      refine lv_iload_n hx hb dX5_readCommand_32 rfl (lv_at hl_178 2 rfl) ?_
      refine lv_aload_n hx hb dX5_readCommand_33 rfl (lv_at hl_178 0 rfl) ?_
      refine g_cmdst C hW_190 hS_185 k (nI_clamp (by omega)) (vp_in_nI hk (by decide)) (by decide) dX5_readCommand_34 (fun H_194 locs_195 hW_196 hS_197 => ?_)
      obtain ⟨w_198, ew_198⟩ : ∃ Z9, Z9 = upd (X.1 13) (k) (nI (7 + 1)) := ⟨_, rfl⟩
      have hW_199 : Wd G (setRow (setRow (setRow X 11 w_188) 14 w_189) 13 w_198) H_194 := Wd.cast (by rw [ew_198]; exact st_out) hW_196
      refine lv_iconst (v := 1) hx hb dX5_readCommand_35 (by decide) ?_
      exact g_zret C hr hlk hW_199 hS_197 dX5_readCommand_36 rfl (by subst ew_198; subst ew_189; subst ew_188; subst ep_187; subst ew_10; subst ep_9; exact ⟨by simp only [rcR, formL, uu6, h9, b_193, if_true, if_false]; first | done | rfl, by simp only [rcR, formL, uu6, h9, b_193, if_true, if_false]; first | done | rfl⟩)
    · refine lv_iconst (v := 0) hx hb dX5_readCommand_26 (by decide) ?_
      exact g_zret C hr hlk hW_190 hS_185 dX5_readCommand_27 rfl (by subst ew_189; subst ew_188; subst ep_187; subst ew_10; subst ep_9; exact ⟨by simp only [rcR, formL, uu6, h9, b_193, if_true, if_false]; first | done | rfl, by simp only [rcR, formL, uu6, h9, b_193, if_true, if_false]; first | done | rfl⟩)
  · refine g_topv (y := .ref (cy G (20 + 8))) rfl ?_
    refine lv_astore_n (lv' := [(2, .ref (cy G (20 + 8))), (0, .ref (ad G 718)), (1, .int (nI k))]) hx hb dX5_readCommand_4 rfl hl (by decide) rfl (fun ls_200 hl_201 => ?_)
    refine lv_aload_n hx hb dX5_readCommand_5 rfl (lv_at hl_201 0 rfl) ?_
    refine lv_ifnull hx hb dX5_readCommand_6 ?_
    refine lv_aload_n hx hb dX5_readCommand_9 rfl (lv_at hl_201 1 rfl) ?_
    refine lv_aload_n hx hb dX5_readCommand_10 rfl (lv_at hl_201 0 rfl) ?_
    refine g_efN C hS_7 C.2.2.2.2.2.2.2.2.2.2.2.2.1 (i := 8) (by decide) nw_23 dX5_readCommand_11 ?_
    refine g_topv (y := .ref (cy G (50 + 15))) rfl ?_
    refine lv_aload_n hx hb dX5_readCommand_14 rfl (lv_at hl_201 1 rfl) ?_
    refine gSc_arguments C hW_11 (hwc hwX5) (mc qw_236) dX5_readCommand_15 ?_
    refine lv_iload_n hx hb dX5_readCommand_18 rfl (lv_at hl_201 2 rfl) ?_
    refine g_args C hW_11 k (nI_clamp (by omega)) (vp_in_nI hk (by decide)) dX5_readCommand_19 ?_
    refine g_calli (va_runV (As := [.ref (cy G (50 + 15)), .ref (ad G (738 + k))]) (rest := []) C.1 (cX5_readArguments15_ok l G (setRow (setRow (setRow X 11 w_10) 14 (X.1 14)) 13 (X.1 13)) L p_9 hL (by omega) ((congrFun (rd_in (by decide) (rd_in (by decide) rd_out)) _).trans kn_12) ((congrFun (rd_in (by decide) (rd_in (by decide) rd_out)) _).trans kn_13) k hk) (cwV 2 C.1.2.2.2.2 (gV qw_1390 qw_1392 qw_22 qw_76 qw_1393) rfl rfl rfl (by decide +kernel) ⟨Nat.le_of_ble_eq_true rfl, Nat.le_of_ble_eq_true rfl⟩) (g_rScript C hW_11 hS_7 [.ref (cy G (50 + 15)), .ref (ad G (738 + k))]) rfl rfl hl_201.1 rfl (lv_room (Nat.le_of_ble_eq_true rfl)) dX5_readCommand_20 ⟨Nat.zero_le _, Nat.zero_le _⟩) hS_7 (fun r_203 Y_204 H_205 locs_206 hW_207 hS_208 h_202 => ?_)
    obtain ⟨h_209, h_202⟩ := h_202
    replace h_209 : r_203 = (rdP (X.1 12) L k [110, 32, 100] 0 p_9 (X.1 14)).1 := h_209
    replace h_202 : Y_204 = setRow (setRow (setRow (setRow (setRow X 11 w_10) 14 (X.1 14)) 13 (X.1 13)) 11 (upd w_10 (6) (nI ((rdP (X.1 12) L k [110, 32, 100] 0 p_9 (X.1 14)).2.1)))) 14 ((rdP (X.1 12) L k [110, 32, 100] 0 p_9 (X.1 14)).2.2) := h_202
    obtain ⟨p_210, ep_210⟩ : ∃ Z9 : Nat, Z9 = (rdP (X.1 12) L k [110, 32, 100] 0 p_9 (X.1 14)).2.1 := ⟨_, rfl⟩
    rw [← ep_210] at h_202
    have bp_210 : p_9 ≤ p_210 ∧ p_210 ≤ L := by rw [ep_210]; exact rdP_le (by omega) (by omega)
    subst h_209
    obtain ⟨w_211, ew_211⟩ : ∃ Z9, Z9 = upd w_10 (6) (nI p_210) := ⟨_, rfl⟩
    obtain ⟨w_212, ew_212⟩ : ∃ Z9, Z9 = (rdP (X.1 12) L k [110, 32, 100] 0 p_9 (X.1 14)).2.2 := ⟨_, rfl⟩
    have qqw_211 := h_202
    rw [← ew_211, ← ew_212] at qqw_211
    have hW_213 : Wd G (setRow (setRow (setRow X 11 w_211) 14 w_212) 13 (X.1 13)) H_205 := Wd.cast ((qqw_211.trans (congrArg (fun Z9 => setRow (Z9) 14 w_212) (sr_in (by decide) (sr_in (by decide) sr_out)))).trans (sr_in (by decide) sr_out)) hW_207
    have kn_214 : w_211 (5) = nI L := by rw [ew_211]; exact (kp_upd (by omega)).trans kn_12
    have kn_215 : w_211 (6) = nI p_210 := by rw [ew_211]; exact pk_us
    refine lv_if_ne (tgt := 28) hx hb dX5_readCommand_23 (by decide) (fun b_216 => ?_) (fun b_216 => ?_)
    · refine lv_aload_n hx hb dX5_readCommand_28 rfl (lv_at hl_201 1 rfl) ?_
      refine gSc_commands C hW_213 (hwc hwX5) (mc qw_234) dX5_readCommand_29 ?_
      refine lv_iload_n hx hb dX5_readCommand_32 rfl (lv_at hl_201 2 rfl) ?_
      refine lv_aload_n hx hb dX5_readCommand_33 rfl (lv_at hl_201 0 rfl) ?_
      refine g_cmdst C hW_213 hS_208 k (nI_clamp (by omega)) (vp_in_nI hk (by decide)) (by decide) dX5_readCommand_34 (fun H_217 locs_218 hW_219 hS_220 => ?_)
      obtain ⟨w_221, ew_221⟩ : ∃ Z9, Z9 = upd (X.1 13) (k) (nI (8 + 1)) := ⟨_, rfl⟩
      have hW_222 : Wd G (setRow (setRow (setRow X 11 w_211) 14 w_212) 13 w_221) H_217 := Wd.cast (by rw [ew_221]; exact st_out) hW_219
      refine lv_iconst (v := 1) hx hb dX5_readCommand_35 (by decide) ?_
      exact g_zret C hr hlk hW_222 hS_220 dX5_readCommand_36 rfl (by subst ew_221; subst ew_212; subst ew_211; subst ep_210; subst ew_10; subst ep_9; exact ⟨by simp only [rcR, formL, uu6, h9, b_216, if_true, if_false]; first | done | rfl, by simp only [rcR, formL, uu6, h9, b_216, if_true, if_false]; first | done | rfl⟩)
    · refine lv_iconst (v := 0) hx hb dX5_readCommand_26 (by decide) ?_
      exact g_zret C hr hlk hW_213 hS_208 dX5_readCommand_27 rfl (by subst ew_212; subst ew_211; subst ep_210; subst ew_10; subst ep_9; exact ⟨by simp only [rcR, formL, uu6, h9, b_216, if_true, if_false]; first | done | rfl, by simp only [rcR, formL, uu6, h9, b_216, if_true, if_false]; first | done | rfl⟩)
  · refine g_topv (y := .ref (cy G (20 + 9))) rfl ?_
    refine lv_astore_n (lv' := [(2, .ref (cy G (20 + 9))), (0, .ref (ad G 718)), (1, .int (nI k))]) hx hb dX5_readCommand_4 rfl hl (by decide) rfl (fun ls_223 hl_224 => ?_)
    refine lv_aload_n hx hb dX5_readCommand_5 rfl (lv_at hl_224 0 rfl) ?_
    refine lv_ifnull hx hb dX5_readCommand_6 ?_
    refine lv_aload_n hx hb dX5_readCommand_9 rfl (lv_at hl_224 1 rfl) ?_
    refine lv_aload_n hx hb dX5_readCommand_10 rfl (lv_at hl_224 0 rfl) ?_
    refine g_efN C hS_7 C.2.2.2.2.2.2.2.2.2.2.2.2.1 (i := 9) (by decide) nw_23 dX5_readCommand_11 ?_
    refine g_topv (y := .ref (cy G (50 + 14))) rfl ?_
    refine lv_aload_n hx hb dX5_readCommand_14 rfl (lv_at hl_224 1 rfl) ?_
    refine gSc_arguments C hW_11 (hwc hwX5) (mc qw_236) dX5_readCommand_15 ?_
    refine lv_iload_n hx hb dX5_readCommand_18 rfl (lv_at hl_224 2 rfl) ?_
    refine g_args C hW_11 k (nI_clamp (by omega)) (vp_in_nI hk (by decide)) dX5_readCommand_19 ?_
    refine g_calli (va_runV (As := [.ref (cy G (50 + 14)), .ref (ad G (738 + k))]) (rest := []) C.1 (cX5_readArguments14_ok l G (setRow (setRow (setRow X 11 w_10) 14 (X.1 14)) 13 (X.1 13)) L p_9 hL (by omega) ((congrFun (rd_in (by decide) (rd_in (by decide) rd_out)) _).trans kn_12) ((congrFun (rd_in (by decide) (rd_in (by decide) rd_out)) _).trans kn_13) k hk) (cwV 2 C.1.2.2.2.2 (gV qw_1390 qw_1392 qw_22 qw_76 qw_1393) rfl rfl rfl (by decide +kernel) ⟨Nat.le_of_ble_eq_true rfl, Nat.le_of_ble_eq_true rfl⟩) (g_rScript C hW_11 hS_7 [.ref (cy G (50 + 14)), .ref (ad G (738 + k))]) rfl rfl hl_224.1 rfl (lv_room (Nat.le_of_ble_eq_true rfl)) dX5_readCommand_20 ⟨Nat.zero_le _, Nat.zero_le _⟩) hS_7 (fun r_226 Y_227 H_228 locs_229 hW_230 hS_231 h_225 => ?_)
    obtain ⟨h_232, h_225⟩ := h_225
    replace h_232 : r_226 = (rdP (X.1 12) L k [110] 0 p_9 (X.1 14)).1 := h_232
    replace h_225 : Y_227 = setRow (setRow (setRow (setRow (setRow X 11 w_10) 14 (X.1 14)) 13 (X.1 13)) 11 (upd w_10 (6) (nI ((rdP (X.1 12) L k [110] 0 p_9 (X.1 14)).2.1)))) 14 ((rdP (X.1 12) L k [110] 0 p_9 (X.1 14)).2.2) := h_225
    obtain ⟨p_233, ep_233⟩ : ∃ Z9 : Nat, Z9 = (rdP (X.1 12) L k [110] 0 p_9 (X.1 14)).2.1 := ⟨_, rfl⟩
    rw [← ep_233] at h_225
    have bp_233 : p_9 ≤ p_233 ∧ p_233 ≤ L := by rw [ep_233]; exact rdP_le (by omega) (by omega)
    subst h_232
    obtain ⟨w_234, ew_234⟩ : ∃ Z9, Z9 = upd w_10 (6) (nI p_233) := ⟨_, rfl⟩
    obtain ⟨w_235, ew_235⟩ : ∃ Z9, Z9 = (rdP (X.1 12) L k [110] 0 p_9 (X.1 14)).2.2 := ⟨_, rfl⟩
    have qqw_234 := h_225
    rw [← ew_234, ← ew_235] at qqw_234
    have hW_236 : Wd G (setRow (setRow (setRow X 11 w_234) 14 w_235) 13 (X.1 13)) H_228 := Wd.cast ((qqw_234.trans (congrArg (fun Z9 => setRow (Z9) 14 w_235) (sr_in (by decide) (sr_in (by decide) sr_out)))).trans (sr_in (by decide) sr_out)) hW_230
    have kn_237 : w_234 (5) = nI L := by rw [ew_234]; exact (kp_upd (by omega)).trans kn_12
    have kn_238 : w_234 (6) = nI p_233 := by rw [ew_234]; exact pk_us
    refine lv_if_ne (tgt := 28) hx hb dX5_readCommand_23 (by decide) (fun b_239 => ?_) (fun b_239 => ?_)
    · refine lv_aload_n hx hb dX5_readCommand_28 rfl (lv_at hl_224 1 rfl) ?_
      refine gSc_commands C hW_236 (hwc hwX5) (mc qw_234) dX5_readCommand_29 ?_
      refine lv_iload_n hx hb dX5_readCommand_32 rfl (lv_at hl_224 2 rfl) ?_
      refine lv_aload_n hx hb dX5_readCommand_33 rfl (lv_at hl_224 0 rfl) ?_
      refine g_cmdst C hW_236 hS_231 k (nI_clamp (by omega)) (vp_in_nI hk (by decide)) (by decide) dX5_readCommand_34 (fun H_240 locs_241 hW_242 hS_243 => ?_)
      obtain ⟨w_244, ew_244⟩ : ∃ Z9, Z9 = upd (X.1 13) (k) (nI (9 + 1)) := ⟨_, rfl⟩
      have hW_245 : Wd G (setRow (setRow (setRow X 11 w_234) 14 w_235) 13 w_244) H_240 := Wd.cast (by rw [ew_244]; exact st_out) hW_242
      refine lv_iconst (v := 1) hx hb dX5_readCommand_35 (by decide) ?_
      exact g_zret C hr hlk hW_245 hS_243 dX5_readCommand_36 rfl (by subst ew_244; subst ew_235; subst ew_234; subst ep_233; subst ew_10; subst ep_9; exact ⟨by simp only [rcR, formL, uu6, h9, b_239, if_true, if_false]; first | done | rfl, by simp only [rcR, formL, uu6, h9, b_239, if_true, if_false]; first | done | rfl⟩)
    · refine lv_iconst (v := 0) hx hb dX5_readCommand_26 (by decide) ?_
      exact g_zret C hr hlk hW_236 hS_231 dX5_readCommand_27 rfl (by subst ew_235; subst ew_234; subst ep_233; subst ew_10; subst ep_9; exact ⟨by simp only [rcR, formL, uu6, h9, b_239, if_true, if_false]; first | done | rfl, by simp only [rcR, formL, uu6, h9, b_239, if_true, if_false]; first | done | rfl⟩)

set_option maxHeartbeats 4000000 in
set_option maxRecDepth 100000 in
theorem cX5_parse_ok (l : Launch) (G : GT) (X : St) (L : Nat) (hL : L ≤ 60) (eL : X.1 11 5 = nI L) : MetI l G yX5_parse (wsG yX5_parse cX5_parse 2 (some .int)) (rmz 7 153) [.ref (ad G 718)] X (fun res Y => res = (parseR (X.1 12) L (X.1 13) (X.1 14)).1 ∧ Y = setRow (setRow (setRow X 11 (upd (upd (X.1 11) (6) (nI (parseR (X.1 12) L (X.1 13) (X.1 14)).2.1)) (7) (parseR (X.1 12) L (X.1 13) (X.1 14)).2.2.1)) 14 (parseR (X.1 12) L (X.1 13) (X.1 14)).2.2.2.2) 13 (parseR (X.1 12) L (X.1 13) (X.1 14)).2.2.2.1) := by
  refine g_met (cc := cX5_parse) (maxL := 2) (ret := (some .int)) (by decide) rfl (Nat.le_of_ble_eq_true rfl) ?_
  intro p e s m below meth c ls C hr hlk hnm hW hl
  have hx := C.1.1
  have hb := C.1.2.1
  have hS : va_S (Ab G) s.heap s.heap [] := va_S.rf
  have hl : lv_has ls 2 [(0, .ref (ad G 718))] := hl
  have hW : Wd G (setRow (setRow (setRow X 11 (X.1 11)) 14 (X.1 14)) 13 (X.1 13)) s.heap := Wd.cast (((sr_same (X := setRow (setRow X 11 (X.1 11)) 14 (X.1 14)) rfl).trans ((sr_same (X := setRow X 11 (X.1 11)) rfl).trans (sr_same (X := X) rfl))).symm) hW
  refine lv_aload_n hx hb dX5_parse_0 rfl (lv_at hl 0 rfl) ?_
  refine lv_iconst (v := 0) hx hb dX5_parse_1 (by decide) ?_
  refine gSc_positionP C hW hS (hwc hwX5) (mc qw_233) dX5_parse_2 (fun H_1 locs_2 hW_3 hS_4 => ?_)
  obtain ⟨w_5, ew_5⟩ : ∃ Z9, Z9 = upd (X.1 11) (6) 0 := ⟨_, rfl⟩
  have kn_6 : w_5 (5) = nI L := by rw [ew_5]; exact (pk_un (by omega)).trans eL
  have kn_7 : w_5 (6) = nI 0 := by rw [ew_5]; exact pk_us
  have hW_8 : Wd G (setRow (setRow (setRow X 11 w_5) 14 (X.1 14)) 13 (X.1 13)) H_1 := Wd.cast (by rw [ew_5]; exact (st_in (by decide) (st_in (by decide) st_out))) hW_3
  refine lv_aload_n hx hb dX5_parse_5 rfl (lv_at hl 0 rfl) ?_
  refine lv_iconst (v := 0) hx hb dX5_parse_6 (by decide) ?_
  refine gSc_commandCountP C hW_8 hS_4 (hwc hwX5) (mc qw_238) dX5_parse_7 (fun H_9 locs_10 hW_11 hS_12 => ?_)
  obtain ⟨w_13, ew_13⟩ : ∃ Z9, Z9 = upd w_5 (7) 0 := ⟨_, rfl⟩
  have kn_14 : w_13 (5) = nI L := by rw [ew_13]; exact (pk_un (by omega)).trans kn_6
  have kn_15 : w_13 (6) = nI 0 := by rw [ew_13]; exact (pk_un (by omega)).trans kn_7
  have kn_16 : w_13 (7) = nI 0 := by rw [ew_13]; exact pk_us
  have hW_17 : Wd G (setRow (setRow (setRow X 11 w_13) 14 (X.1 14)) 13 (X.1 13)) H_9 := Wd.cast (by rw [ew_13]; exact (st_in (by decide) (st_in (by decide) st_out))) hW_11
  refine lv_iconst (v := 0) hx hb dX5_parse_10 (by decide) ?_
  refine lv_istore_n (lv' := [(1, .int 0), (0, .ref (ad G 718))]) hx hb dX5_parse_11 rfl hl (by decide) rfl (fun ls_18 hl_19 => ?_)
  have loop : ∀ (q : Nat) (kk pp : Nat) (c9 : Int32) (z11 z14 z13 : Nat → Int32) (H : Heap) (locs : List Loc) (ls : Array Slot), kk + q = 60 → pp ≤ L → z11 = upd (upd (X.1 11) (6) (nI pp)) (7) c9 → z11 5 = nI L → z11 6 = nI pp → prL (X.1 12) L q kk pp c9 z13 z14 = prL (X.1 12) L 60 0 0 0 (X.1 13) (X.1 14) → Wd G (setRow (setRow (setRow X 11 z11) 14 z14) 13 z13) H → va_S (Ab G) s.heap H locs → lv_has ls 2 [(1, .int (nI kk)), (0, .ref (ad G 718))] → W p l e (rmz 7 153) s m ([.ref (ad G 718)] : List Value).toArray below meth c H locs 0 0 (MQ below (Ki G (fun res Y => res = (parseR (X.1 12) L (X.1 13) (X.1 14)).1 ∧ Y = setRow (setRow (setRow X 11 (upd (upd (X.1 11) (6) (nI (parseR (X.1 12) L (X.1 13) (X.1 14)).2.1)) (7) (parseR (X.1 12) L (X.1 13) (X.1 14)).2.2.1)) 14 (parseR (X.1 12) L (X.1 13) (X.1 14)).2.2.2.2) 13 (parseR (X.1 12) L (X.1 13) (X.1 14)).2.2.2.1)) ([.ref (ad G 718)] : List Value).toArray s 0 0 (Ab G)) (F0 m 12 ls []) := by
    intro q
    induction q with
    | zero =>
      intro kk pp c9 z11 z14 z13 H locs ls hq hpp hz k5 k6 hf hW hS hl
      refine lv_iload_n hx hb dX5_parse_12 rfl (lv_at hl 0 rfl) ?_
      refine lv_bipush (v := 60) hx hb dX5_parse_13 (by decide) ?_
      refine lv_icmp_ge (tgt := 71) hx hb dX5_parse_15 (by decide) (fun _ => ?_) (fun h9 => absurd ((nI_leI (a := 60) (b := kk) (by omega) (by omega)).mpr (by omega)) h9)
      refine lv_aload_n hx hb dX5_parse_71 rfl (lv_at hl 1 rfl) ?_
      refine gSc_position C hW (hwc hwX5) (mc qw_233) dX5_parse_72 ?_
      refine g_top (y := z11 (6)) (congrFun (rd_in (by decide) (rd_in (by decide) rd_out)) _) ?_
      refine g_top (y := nI pp) k6 ?_
      exact g_iret C hr hlk hW hS dX5_parse_75 (by rw [parseR, ← hf]; subst hz; exact ⟨by simp only [prL, u676, u677, if_true, if_false]; first | done | rfl, by simp only [prL, u676, u677, if_true, if_false]; first | done | rfl⟩)
    | succ q ih =>
      intro kk pp c9 z11 z14 z13 H locs ls hq hpp hz k5 k6 hf hW hS hl
      refine lv_iload_n hx hb dX5_parse_12 rfl (lv_at hl 0 rfl) ?_
      refine lv_bipush (v := 60) hx hb dX5_parse_13 (by decide) ?_
      refine lv_icmp_ge (tgt := 71) hx hb dX5_parse_15 (by decide) (fun h9 => absurd h9 (fun h8 => absurd ((nI_leI (a := 60) (b := kk) (by omega) (by omega)).mp h8) (by omega))) (fun _ => ?_)
      refine lv_aload_n hx hb dX5_parse_18 rfl (lv_at hl 1 rfl) ?_
      refine lv_iload_n hx hb dX5_parse_19 rfl (lv_at hl 0 rfl) ?_
      refine g_calli (va_runV (As := [.int (nI kk)]) (rest := []) C.1 (cX5_readCommand_ok l G (setRow (setRow (setRow X 11 z11) 14 z14) 13 z13) L pp hL (by omega) ((congrFun (rd_in (by decide) (rd_in (by decide) rd_out)) _).trans k5) ((congrFun (rd_in (by decide) (rd_in (by decide) rd_out)) _).trans k6) kk (show kk < 60 by omega)) (cwV 1 C.1.2.2.2.2 (gV qw_1359 qw_1361 qw_19 qw_76 qw_1362) rfl rfl rfl (by decide +kernel) ⟨Nat.le_of_ble_eq_true rfl, Nat.le_of_ble_eq_true rfl⟩) (g_rScript C hW hS [.int (nI kk)]) rfl rfl hl.1 rfl (lv_room (Nat.le_of_ble_eq_true rfl)) dX5_parse_20 ⟨Nat.zero_le _, Nat.zero_le _⟩) hS (fun r_21 Y_22 H_23 locs_24 hW_25 hS_26 h_20 => ?_)
      obtain ⟨h_27, h_20⟩ := h_20
      replace h_27 : r_21 = (rcR (X.1 12) L kk pp z13 z14).1 := h_27
      replace h_20 : Y_22 = setRow (setRow (setRow (setRow (setRow (setRow X 11 z11) 14 z14) 13 z13) 11 (upd z11 (6) (nI ((rcR (X.1 12) L kk pp z13 z14).2.1)))) 14 ((rcR (X.1 12) L kk pp z13 z14).2.2.2)) 13 ((rcR (X.1 12) L kk pp z13 z14).2.2.1) := h_20
      obtain ⟨p_28, ep_28⟩ : ∃ Z9 : Nat, Z9 = (rcR (X.1 12) L kk pp z13 z14).2.1 := ⟨_, rfl⟩
      rw [← ep_28] at h_20
      have bp_28 : pp ≤ p_28 ∧ p_28 ≤ L := by rw [ep_28]; exact rcR_le (by omega) (by omega)
      subst h_27
      obtain ⟨w_29, ew_29⟩ : ∃ Z9, Z9 = upd z11 (6) (nI p_28) := ⟨_, rfl⟩
      obtain ⟨w_30, ew_30⟩ : ∃ Z9, Z9 = (rcR (X.1 12) L kk pp z13 z14).2.2.2 := ⟨_, rfl⟩
      obtain ⟨w_31, ew_31⟩ : ∃ Z9, Z9 = (rcR (X.1 12) L kk pp z13 z14).2.2.1 := ⟨_, rfl⟩
      have qqw_29 := h_20
      rw [← ew_29, ← ew_30, ← ew_31] at qqw_29
      have hW_32 : Wd G (setRow (setRow (setRow X 11 w_29) 14 w_30) 13 w_31) H_23 := Wd.cast (((qqw_29.trans (congrArg (fun Z9 => setRow (setRow (Z9) 14 w_30) 13 w_31) (sr_in (by decide) (sr_in (by decide) sr_out)))).trans (congrArg (fun Z9 => setRow (Z9) 13 w_31) (sr_in (by decide) sr_out))).trans sr_out) hW_25
      have kn_33 : w_29 (5) = nI L := by rw [ew_29]; exact (kp_upd (by omega)).trans k5
      have kn_34 : w_29 (6) = nI p_28 := by rw [ew_29]; exact pk_us
      refine lv_if_ne (tgt := 31) hx hb dX5_parse_23 (by decide) (fun b_35 => ?_) (fun b_35 => ?_)
      · refine lv_aload_n hx hb dX5_parse_31 rfl (lv_at hl 1 rfl) ?_
        refine lv_iload_n hx hb dX5_parse_32 rfl (lv_at hl 0 rfl) ?_
        refine lv_iconst (v := 1) hx hb dX5_parse_33 (by decide) ?_
        refine lv_iadd hx hb dX5_parse_34 ?_
        refine g_top (y := nI (kk + 1)) (nI_add kk 1) ?_
        refine gSc_commandCountP C hW_32 hS_26 (hwc hwX5) (mc qw_238) dX5_parse_35 (fun H_36 locs_37 hW_38 hS_39 => ?_)
        obtain ⟨w_40, ew_40⟩ : ∃ Z9, Z9 = upd w_29 (7) (nI (kk + 1)) := ⟨_, rfl⟩
        have kn_41 : w_40 (5) = nI L := by rw [ew_40]; exact (pk_un (by omega)).trans kn_33
        have kn_42 : w_40 (6) = nI p_28 := by rw [ew_40]; exact (pk_un (by omega)).trans kn_34
        have kn_43 : w_40 (7) = nI (kk + 1) := by rw [ew_40]; exact pk_us
        have hW_44 : Wd G (setRow (setRow (setRow X 11 w_40) 14 w_30) 13 w_31) H_36 := Wd.cast (by rw [ew_40]; exact (st_in (by decide) (st_in (by decide) st_out))) hW_38
        refine lv_aload_n hx hb dX5_parse_38 rfl (lv_at hl 1 rfl) ?_
        refine gSc_position C hW_44 (hwc hwX5) (mc qw_233) dX5_parse_39 ?_
        refine g_top (y := w_40 (6)) (congrFun (rd_in (by decide) (rd_in (by decide) rd_out)) _) ?_
        refine g_top (y := nI p_28) kn_42 ?_
        refine lv_aload_n hx hb dX5_parse_42 rfl (lv_at hl 1 rfl) ?_
        refine gSc_length C hW_44 (hwc hwX5) (mc qw_231) dX5_parse_43 ?_
        refine g_top (y := w_40 (5)) (congrFun (rd_in (by decide) (rd_in (by decide) rd_out)) _) ?_
        refine g_top (y := nI L) kn_41 ?_
        refine lv_icmp_lt (tgt := 51) hx hb dX5_parse_46 (by decide) (fun b_45 => ?_) (fun b_45 => ?_)
        · have fb_45 : p_28 < L := (nI_ltI (a := p_28) (b := L) (by omega) (by omega)).mp b_45
          refine lv_aload_n hx hb dX5_parse_51 rfl (lv_at hl 1 rfl) ?_
          refine lv_bipush (v := 59) hx hb dX5_parse_52 (by decide) ?_
          refine g_calli (va_runV (As := [.int 59]) (rest := []) C.1 (cX5_readSign_ok l G (setRow (setRow (setRow X 11 w_40) 14 w_30) 13 w_31) L p_28 hL (by omega) ((congrFun (rd_in (by decide) (rd_in (by decide) rd_out)) _).trans kn_41) ((congrFun (rd_in (by decide) (rd_in (by decide) rd_out)) _).trans kn_42) 59) (cwV 1 C.1.2.2.2.2 (gV qw_1394 qw_1396 qw_23 qw_76 qw_1397) rfl rfl rfl (by decide +kernel) ⟨Nat.le_of_ble_eq_true rfl, Nat.le_of_ble_eq_true rfl⟩) (g_rScript C hW_44 hS_39 [.int 59]) rfl rfl hl.1 rfl (lv_room (Nat.le_of_ble_eq_true rfl)) dX5_parse_54 ⟨Nat.zero_le _, Nat.zero_le _⟩) hS_39 (fun r_47 Y_48 H_49 locs_50 hW_51 hS_52 h_46 => ?_)
          obtain ⟨h_53, h_46⟩ := h_46
          replace h_53 : r_47 = (rsV (X.1 12) L p_28 59).2 := h_53
          replace h_46 : Y_48 = setRow (setRow (setRow (setRow X 11 w_40) 14 w_30) 13 w_31) 11 (upd ((setRow (setRow (setRow X 11 w_40) 14 w_30) 13 w_31).1 11) (6) (nI ((rsV (X.1 12) L p_28 59).1))) := h_46
          obtain ⟨p_54, ep_54⟩ : ∃ Z9 : Nat, Z9 = (rsV (X.1 12) L p_28 59).1 := ⟨_, rfl⟩
          rw [← ep_54] at h_46
          have bp_54 : p_28 ≤ p_54 ∧ p_54 ≤ L := by rw [ep_54]; exact rsV_le (by omega) (by omega)
          subst h_53
          obtain ⟨w_55, ew_55⟩ : ∃ Z9, Z9 = upd w_40 (6) (nI p_54) := ⟨_, rfl⟩
          have kn_56 : w_55 (5) = nI L := by rw [ew_55]; exact (kp_upd (by omega)).trans kn_41
          have kn_57 : w_55 (7) = nI (kk + 1) := by rw [ew_55]; exact (kp_upd (by omega)).trans kn_43
          have hW_58 : Wd G (setRow (setRow (setRow X 11 w_55) 14 w_30) 13 w_31) H_49 := Wd.cast (by rw [h_46, ew_55]; exact ((congrArg (fun Z9 => setRow (setRow (setRow (setRow X 11 w_40) 14 w_30) 13 w_31) 11 (upd Z9 (6) (nI p_54))) (rd_in (by decide) (rd_in (by decide) rd_out))).trans (sr_in (by decide) (sr_in (by decide) sr_out)))) hW_51
          have kn_59 : w_55 (6) = nI p_54 := by rw [ew_55]; exact pk_us
          refine lv_if_ne (tgt := 65) hx hb dX5_parse_57 (by decide) (fun b_60 => ?_) (fun b_60 => ?_)
          · refine lv_iinc (v := nI (kk + 1)) (lv' := [(1, .int (nI (kk + 1))), (0, .ref (ad G 718))]) hx hb dX5_parse_65 hl (k := 0) rfl (nI_1 kk) (by decide) rfl (fun ls_61 hl_62 => ?_)
            refine lv_goto (tgt := 12) hx hb dX5_parse_68 (by decide) ?_
            exact ih (kk + 1) p_54 (nI (kk + 1)) w_55 w_30 w_31 H_49 locs_50 ls_61 (by omega) (by omega) (by subst ew_55; subst ep_54; subst ew_40; subst ew_31; subst ew_30; subst ew_29; subst ep_28; subst hz; simp only [u676, u677]) kn_56 kn_59 (by rw [← hf]; subst ew_55; subst ep_54; subst ew_40; subst ew_31; subst ew_30; subst ew_29; subst ep_28; simp only [prL, b_35, b_45, b_60, if_true, if_false]) hW_58 hS_52 (lv_sub hl_62 [0, 1] rfl)
          · refine lv_aload_n hx hb dX5_parse_60 rfl (lv_at hl 1 rfl) ?_
            refine gSc_position C hW_58 (hwc hwX5) (mc qw_233) dX5_parse_61 ?_
            refine g_top (y := w_55 (6)) (congrFun (rd_in (by decide) (rd_in (by decide) rd_out)) _) ?_
            refine g_top (y := nI p_54) kn_59 ?_
            exact g_iret C hr hlk hW_58 hS_52 dX5_parse_64 (by rw [parseR, ← hf]; subst ew_55; subst ep_54; subst ew_40; subst ew_31; subst ew_30; subst ew_29; subst ep_28; subst hz; exact ⟨by simp only [prL, u676, u677, b_35, b_45, b_60, if_true, if_false]; first | done | rfl, by simp only [prL, u676, u677, b_35, b_45, b_60, if_true, if_false]; first | done | rfl⟩)
        · have fb_45 : ¬ p_28 < L := fun q9 => b_45 ((nI_ltI (a := p_28) (b := L) (by omega) (by omega)).mpr q9)
          refine lv_iconst (v := (-1)) hx hb dX5_parse_49 (by decide) ?_
          exact g_iret C hr hlk hW_44 hS_39 dX5_parse_50 (by rw [parseR, ← hf]; subst ew_40; subst ew_31; subst ew_30; subst ew_29; subst ep_28; subst hz; exact ⟨by simp only [prL, u676, u677, b_35, b_45, if_true, if_false]; first | done | rfl, by simp only [prL, u676, u677, b_35, b_45, if_true, if_false]; first | done | rfl⟩)
      · refine lv_aload_n hx hb dX5_parse_26 rfl (lv_at hl 1 rfl) ?_
        refine gSc_position C hW_32 (hwc hwX5) (mc qw_233) dX5_parse_27 ?_
        refine g_top (y := w_29 (6)) (congrFun (rd_in (by decide) (rd_in (by decide) rd_out)) _) ?_
        refine g_top (y := nI p_28) kn_34 ?_
        exact g_iret C hr hlk hW_32 hS_26 dX5_parse_30 (by rw [parseR, ← hf]; subst ew_31; subst ew_30; subst ew_29; subst ep_28; subst hz; exact ⟨by simp only [prL, u676, u677, b_35, if_true, if_false]; first | done | rfl, by simp only [prL, u676, u677, b_35, if_true, if_false]; first | done | rfl⟩)
  exact loop 60 0 0 0 w_13 (X.1 14) (X.1 13) H_9 locs_10 ls_18 rfl (by omega) (by subst ew_13; subst ew_5; rfl) kn_14 kn_15 rfl hW_17 hS_12 (lv_sub hl_19 [0, 1] rfl)
