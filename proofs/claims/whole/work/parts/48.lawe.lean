/-! The law's cases without a helper. -/
section LE
variable {p : Program} {l : Launch} {e : Env} {s : State} {m : MethodId} {args : Array Value} {below : List Frame} {meth : Method} {c : Code} {H : Heap} {locs : List Loc} {cells slots : Nat} {Q : State → Prop}
variable {ls : Array Slot} {G : GT} {X : St} {b : Nat}
set_option maxHeartbeats 2000000 in
theorem lC_mouldCount (C : Cx p m c cL_law 10 s args lw_all "FoundryLaw" G) (hS : va_S (Ab G) s.heap H locs) (hW : Wd G X H) {n : Nat} (hl : lv_has ls 10 [(0, .ref b), (1, .ref (ad G 715)), (2, .ref (ad G 723)), (3, .ref (ad G 735)), (4, .ref (ad G 736)), (5, .int (nI (4 * n)))])
    {f n1 f2 n2 : Nat} {post : Int32 → St → Prop} {post2 : St → Int32 → St → Prop} (hf : f ≤ 2000) (hn : n1 ≤ 94000) (hf2 : f2 ≤ 2000) (hn2 : n2 ≤ 94000) (hc : cells ≤ 714529) (hs : slots ≤ 6893124)
    (hM : MetI l G yX7_mouldCount (wsG yX7_mouldCount cX7_mouldCount 1 (some .int)) (rmz f n1) [.ref (ad G 715)] X post) (hM2 : ∀ (r : Int32) (Y : St), post r Y → MetI l G yX8_mouldCount (wsG yX8_mouldCount cX8_mouldCount 1 (some .int)) (rmz f2 n2) [.ref (ad G 723)] Y (post2 Y)) (hstep : ∀ (r : Int32) (Y : St), post r Y → ∀ (r2 : Int32) (Z : St), post2 Y r2 Z → r = r2)
    (kk : ∀ (r : Int32) (Y : St), post r Y → ∀ (Z : St), post2 Y r Z → ∀ (H1 : Heap) (locs1 : List Loc), Wd G Z H1 → va_S (Ab G) s.heap H1 locs1 → W p l e room_1 s m args below meth c H1 locs1 cells slots Q (F0 m 2989 ls [])) : W p l e room_1 s m args below meth c H locs cells slots Q (F0 m 1741 ls []) := by
  have hx := C.1.1
  have hb := C.1.2.1
  refine lv_aload_n hx hb dL_law_1741 rfl (lv_at hl 1 rfl) ?_
  refine g_calli (va_runV (As := []) (rest := []) C.1 hM (cwV 0 C.1.2.2.2.2 (gV0 qw_312 qw_313 qw_314 qw_71 qw_315) rfl rfl rfl (by decide +kernel) ⟨by show f + 1 ≤ 2048; omega, by show 8 + (1 + 11) + n1 ≤ 94400; omega⟩) (g_rFoundry C hW hS []) rfl rfl hl.1 rfl (lv_room (Nat.le_of_ble_eq_true rfl)) dL_law_1742 ⟨hc, hs⟩) hS (fun r Y H1 locs1 hW1 hS1 hp => ?_)
  refine lv_aload_n hx hb dL_law_1745 rfl (lv_at hl 2 rfl) ?_
  refine g_calli (va_runV (As := []) (rest := [.int r]) C.1 (hM2 r Y hp) (cwV 0 C.1.2.2.2.2 (gV0 qw_1774 qw_1775 qw_1776 qw_81 qw_1777) rfl rfl rfl (by decide +kernel) ⟨by show f2 + 1 ≤ 2048; omega, by show 8 + (1 + 11) + n2 ≤ 94400; omega⟩) (g_rModel C hW1 hS1 []) rfl rfl hl.1 rfl (lv_room (Nat.le_of_ble_eq_true rfl)) dL_law_1746 ⟨hc, hs⟩) hS1 (fun r2 Z H2 locs2 hW2 hS2 hp2 => ?_)
  have he := hstep r Y hp r2 Z hp2
  subst he
  exact lv_icmp_eq (tgt := 2989) hx hb dL_law_1749 (by decide) (fun _ => kk r Y hp Z hp2 H2 locs2 hW2 hS2) (fun h => absurd rfl h)
set_option maxHeartbeats 2000000 in
theorem lC_ingotCount (C : Cx p m c cL_law 10 s args lw_all "FoundryLaw" G) (hS : va_S (Ab G) s.heap H locs) (hW : Wd G X H) {n : Nat} (hl : lv_has ls 10 [(0, .ref b), (1, .ref (ad G 715)), (2, .ref (ad G 723)), (3, .ref (ad G 735)), (4, .ref (ad G 736)), (5, .int (nI (4 * n)))])
    {f n1 f2 n2 : Nat} {post : Int32 → St → Prop} {post2 : St → Int32 → St → Prop} (hf : f ≤ 2000) (hn : n1 ≤ 94000) (hf2 : f2 ≤ 2000) (hn2 : n2 ≤ 94000) (hc : cells ≤ 714529) (hs : slots ≤ 6893124)
    (hM : MetI l G yX7_ingotCount (wsG yX7_ingotCount cX7_ingotCount 1 (some .int)) (rmz f n1) [.ref (ad G 715)] X post) (hM2 : ∀ (r : Int32) (Y : St), post r Y → MetI l G yX8_ingotCount (wsG yX8_ingotCount cX8_ingotCount 1 (some .int)) (rmz f2 n2) [.ref (ad G 723)] Y (post2 Y)) (hstep : ∀ (r : Int32) (Y : St), post r Y → ∀ (r2 : Int32) (Z : St), post2 Y r2 Z → r = r2)
    (kk : ∀ (r : Int32) (Y : St), post r Y → ∀ (Z : St), post2 Y r Z → ∀ (H1 : Heap) (locs1 : List Loc), Wd G Z H1 → va_S (Ab G) s.heap H1 locs1 → W p l e room_1 s m args below meth c H1 locs1 cells slots Q (F0 m 2989 ls [])) : W p l e room_1 s m args below meth c H locs cells slots Q (F0 m 1943 ls []) := by
  have hx := C.1.1
  have hb := C.1.2.1
  refine lv_aload_n hx hb dL_law_1943 rfl (lv_at hl 1 rfl) ?_
  refine g_calli (va_runV (As := []) (rest := []) C.1 hM (cwV 0 C.1.2.2.2.2 (gV0 qw_316 qw_317 qw_318 qw_71 qw_319) rfl rfl rfl (by decide +kernel) ⟨by show f + 1 ≤ 2048; omega, by show 8 + (1 + 11) + n1 ≤ 94400; omega⟩) (g_rFoundry C hW hS []) rfl rfl hl.1 rfl (lv_room (Nat.le_of_ble_eq_true rfl)) dL_law_1944 ⟨hc, hs⟩) hS (fun r Y H1 locs1 hW1 hS1 hp => ?_)
  refine lv_aload_n hx hb dL_law_1947 rfl (lv_at hl 2 rfl) ?_
  refine g_calli (va_runV (As := []) (rest := [.int r]) C.1 (hM2 r Y hp) (cwV 0 C.1.2.2.2.2 (gV0 qw_1790 qw_1791 qw_1792 qw_81 qw_1793) rfl rfl rfl (by decide +kernel) ⟨by show f2 + 1 ≤ 2048; omega, by show 8 + (1 + 11) + n2 ≤ 94400; omega⟩) (g_rModel C hW1 hS1 []) rfl rfl hl.1 rfl (lv_room (Nat.le_of_ble_eq_true rfl)) dL_law_1948 ⟨hc, hs⟩) hS1 (fun r2 Z H2 locs2 hW2 hS2 hp2 => ?_)
  have he := hstep r Y hp r2 Z hp2
  subst he
  exact lv_icmp_eq (tgt := 2989) hx hb dL_law_1951 (by decide) (fun _ => kk r Y hp Z hp2 H2 locs2 hW2 hS2) (fun h => absurd rfl h)
set_option maxHeartbeats 2000000 in
theorem lC_time (C : Cx p m c cL_law 10 s args lw_all "FoundryLaw" G) (hS : va_S (Ab G) s.heap H locs) (hW : Wd G X H) {n : Nat} (hl : lv_has ls 10 [(0, .ref b), (1, .ref (ad G 715)), (2, .ref (ad G 723)), (3, .ref (ad G 735)), (4, .ref (ad G 736)), (5, .int (nI (4 * n)))])
    {f n1 f2 n2 : Nat} {post : Int32 → St → Prop} {post2 : St → Int32 → St → Prop} (hf : f ≤ 2000) (hn : n1 ≤ 94000) (hf2 : f2 ≤ 2000) (hn2 : n2 ≤ 94000) (hc : cells ≤ 714529) (hs : slots ≤ 6893124)
    (hM : MetI l G yX7_time (wsG yX7_time cX7_time 1 (some .int)) (rmz f n1) [.ref (ad G 715)] X post) (hM2 : ∀ (r : Int32) (Y : St), post r Y → MetI l G yX8_time (wsG yX8_time cX8_time 1 (some .int)) (rmz f2 n2) [.ref (ad G 723)] Y (post2 Y)) (hstep : ∀ (r : Int32) (Y : St), post r Y → ∀ (r2 : Int32) (Z : St), post2 Y r2 Z → r = r2)
    (kk : ∀ (r : Int32) (Y : St), post r Y → ∀ (Z : St), post2 Y r Z → ∀ (H1 : Heap) (locs1 : List Loc), Wd G Z H1 → va_S (Ab G) s.heap H1 locs1 → W p l e room_1 s m args below meth c H1 locs1 cells slots Q (F0 m 2989 ls [])) : W p l e room_1 s m args below meth c H locs cells slots Q (F0 m 2208 ls []) := by
  have hx := C.1.1
  have hb := C.1.2.1
  refine lv_aload_n hx hb dL_law_2208 rfl (lv_at hl 1 rfl) ?_
  refine g_calli (va_runV (As := []) (rest := []) C.1 hM (cwV 0 C.1.2.2.2.2 (gV0 qw_320 qw_321 qw_322 qw_71 qw_323) rfl rfl rfl (by decide +kernel) ⟨by show f + 1 ≤ 2048; omega, by show 8 + (1 + 11) + n1 ≤ 94400; omega⟩) (g_rFoundry C hW hS []) rfl rfl hl.1 rfl (lv_room (Nat.le_of_ble_eq_true rfl)) dL_law_2209 ⟨hc, hs⟩) hS (fun r Y H1 locs1 hW1 hS1 hp => ?_)
  refine lv_aload_n hx hb dL_law_2212 rfl (lv_at hl 2 rfl) ?_
  refine g_calli (va_runV (As := []) (rest := [.int r]) C.1 (hM2 r Y hp) (cwV 0 C.1.2.2.2.2 (gV0 qw_1818 qw_1819 qw_1820 qw_81 qw_1821) rfl rfl rfl (by decide +kernel) ⟨by show f2 + 1 ≤ 2048; omega, by show 8 + (1 + 11) + n2 ≤ 94400; omega⟩) (g_rModel C hW1 hS1 []) rfl rfl hl.1 rfl (lv_room (Nat.le_of_ble_eq_true rfl)) dL_law_2213 ⟨hc, hs⟩) hS1 (fun r2 Z H2 locs2 hW2 hS2 hp2 => ?_)
  have he := hstep r Y hp r2 Z hp2
  subst he
  exact lv_icmp_eq (tgt := 2989) hx hb dL_law_2216 (by decide) (fun _ => kk r Y hp Z hp2 H2 locs2 hW2 hS2) (fun h => absurd rfl h)
set_option maxHeartbeats 2000000 in
theorem lC_isConsistent (C : Cx p m c cL_law 10 s args lw_all "FoundryLaw" G) (hS : va_S (Ab G) s.heap H locs) (hW : Wd G X H) {n : Nat} (hl : lv_has ls 10 [(0, .ref b), (1, .ref (ad G 715)), (2, .ref (ad G 723)), (3, .ref (ad G 735)), (4, .ref (ad G 736)), (5, .int (nI (4 * n)))])
    {f n1 f2 n2 : Nat} {post : Int32 → St → Prop} {post2 : St → Int32 → St → Prop} (hf : f ≤ 2000) (hn : n1 ≤ 94000) (hf2 : f2 ≤ 2000) (hn2 : n2 ≤ 94000) (hc : cells ≤ 714529) (hs : slots ≤ 6893124)
    (hM : MetI l G yX7_isConsistent (wsG yX7_isConsistent cX7_isConsistent 2 (some .boolean)) (rmz f n1) [.ref (ad G 715)] X post) (hM2 : ∀ (r : Int32) (Y : St), post r Y → MetI l G yX8_isConsistent (wsG yX8_isConsistent cX8_isConsistent 3 (some .boolean)) (rmz f2 n2) [.ref (ad G 723)] Y (post2 Y)) (hstep : ∀ (r : Int32) (Y : St), post r Y → ∀ (r2 : Int32) (Z : St), post2 Y r2 Z → r = r2)
    (kk : ∀ (r : Int32) (Y : St), post r Y → ∀ (Z : St), post2 Y r Z → ∀ (H1 : Heap) (locs1 : List Loc), Wd G Z H1 → va_S (Ab G) s.heap H1 locs1 → W p l e room_1 s m args below meth c H1 locs1 cells slots Q (F0 m 2989 ls [])) : W p l e room_1 s m args below meth c H locs cells slots Q (F0 m 2560 ls []) := by
  have hx := C.1.1
  have hb := C.1.2.1
  refine lv_aload_n hx hb dL_law_2560 rfl (lv_at hl 1 rfl) ?_
  refine g_calli (va_runV (As := []) (rest := []) C.1 hM (cwV 0 C.1.2.2.2.2 (gV0 qw_329 qw_330 qw_331 qw_71 qw_332) rfl rfl rfl (by decide +kernel) ⟨by show f + 1 ≤ 2048; omega, by show 8 + (2 + 11) + n1 ≤ 94400; omega⟩) (g_rFoundry C hW hS []) rfl rfl hl.1 rfl (lv_room (Nat.le_of_ble_eq_true rfl)) dL_law_2561 ⟨hc, hs⟩) hS (fun r Y H1 locs1 hW1 hS1 hp => ?_)
  refine lv_aload_n hx hb dL_law_2564 rfl (lv_at hl 2 rfl) ?_
  refine g_calli (va_runV (As := []) (rest := [.int r]) C.1 (hM2 r Y hp) (cwV 0 C.1.2.2.2.2 (gV0 qw_1852 qw_1853 qw_1854 qw_81 qw_1855) rfl rfl rfl (by decide +kernel) ⟨by show f2 + 1 ≤ 2048; omega, by show 8 + (3 + 11) + n2 ≤ 94400; omega⟩) (g_rModel C hW1 hS1 []) rfl rfl hl.1 rfl (lv_room (Nat.le_of_ble_eq_true rfl)) dL_law_2565 ⟨hc, hs⟩) hS1 (fun r2 Z H2 locs2 hW2 hS2 hp2 => ?_)
  have he := hstep r Y hp r2 Z hp2
  subst he
  exact lv_icmp_eq (tgt := 2989) hx hb dL_law_2568 (by decide) (fun _ => kk r Y hp Z hp2 H2 locs2 hW2 hS2) (fun h => absurd rfl h)
set_option maxHeartbeats 2000000 in
theorem lC_renderGrades (C : Cx p m c cL_law 10 s args lw_all "FoundryLaw" G) (hS : va_S (Ab G) s.heap H locs) (hW : Wd G X H) {n : Nat} (hl : lv_has ls 10 [(0, .ref b), (1, .ref (ad G 715)), (2, .ref (ad G 723)), (3, .ref (ad G 735)), (4, .ref (ad G 736)), (5, .int (nI (4 * n)))])
    {f n1 f2 n2 : Nat} {post : Int32 → St → Prop} {post2 : St → Int32 → St → Prop} (hf : f ≤ 2000) (hn : n1 ≤ 94000) (hf2 : f2 ≤ 2000) (hn2 : n2 ≤ 94000) (hc : cells ≤ 714529) (hs : slots ≤ 6893124)
    (hM : MetI l G yX7_renderGrades (wsG yX7_renderGrades cX7_renderGrades 2 (some .int)) (rmz f n1) [.ref (ad G 715)] X post) (hM2 : ∀ (r : Int32) (Y : St), post r Y → MetI l G yX8_renderGrades (wsG yX8_renderGrades cX8_renderGrades 2 (some .int)) (rmz f2 n2) [.ref (ad G 723)] Y (post2 Y)) (hstep : ∀ (r : Int32) (Y : St), post r Y → ∀ (r2 : Int32) (Z : St), post2 Y r2 Z → r = r2)
    (kk : ∀ (r : Int32) (Y : St), post r Y → ∀ (Z : St), post2 Y r Z → ∀ (H1 : Heap) (locs1 : List Loc), Wd G Z H1 → va_S (Ab G) s.heap H1 locs1 → W p l e room_1 s m args below meth c H1 locs1 cells slots Q (F0 m 2989 ls [])) : W p l e room_1 s m args below meth c H locs cells slots Q (F0 m 2629 ls []) := by
  have hx := C.1.1
  have hb := C.1.2.1
  refine lv_aload_n hx hb dL_law_2629 rfl (lv_at hl 1 rfl) ?_
  refine g_calli (va_runV (As := []) (rest := []) C.1 hM (cwV 0 C.1.2.2.2.2 (gV0 qw_385 qw_386 qw_387 qw_71 qw_388) rfl rfl rfl (by decide +kernel) ⟨by show f + 1 ≤ 2048; omega, by show 8 + (2 + 11) + n1 ≤ 94400; omega⟩) (g_rFoundry C hW hS []) rfl rfl hl.1 rfl (lv_room (Nat.le_of_ble_eq_true rfl)) dL_law_2630 ⟨hc, hs⟩) hS (fun r Y H1 locs1 hW1 hS1 hp => ?_)
  refine lv_aload_n hx hb dL_law_2633 rfl (lv_at hl 2 rfl) ?_
  refine g_calli (va_runV (As := []) (rest := [.int r]) C.1 (hM2 r Y hp) (cwV 0 C.1.2.2.2.2 (gV0 qw_1871 qw_1872 qw_1873 qw_81 qw_1874) rfl rfl rfl (by decide +kernel) ⟨by show f2 + 1 ≤ 2048; omega, by show 8 + (2 + 11) + n2 ≤ 94400; omega⟩) (g_rModel C hW1 hS1 []) rfl rfl hl.1 rfl (lv_room (Nat.le_of_ble_eq_true rfl)) dL_law_2634 ⟨hc, hs⟩) hS1 (fun r2 Z H2 locs2 hW2 hS2 hp2 => ?_)
  have he := hstep r Y hp r2 Z hp2
  subst he
  exact lv_icmp_eq (tgt := 2989) hx hb dL_law_2637 (by decide) (fun _ => kk r Y hp Z hp2 H2 locs2 hW2 hS2) (fun h => absurd rfl h)
set_option maxHeartbeats 2000000 in
theorem lC_save (C : Cx p m c cL_law 10 s args lw_all "FoundryLaw" G) (hS : va_S (Ab G) s.heap H locs) (hW : Wd G X H) {n : Nat} (hl : lv_has ls 10 [(0, .ref b), (1, .ref (ad G 715)), (2, .ref (ad G 723)), (3, .ref (ad G 735)), (4, .ref (ad G 736)), (5, .int (nI (4 * n)))])
    {f n1 f2 n2 : Nat} {post : Int32 → St → Prop} {post2 : St → Int32 → St → Prop} (hf : f ≤ 2000) (hn : n1 ≤ 94000) (hf2 : f2 ≤ 2000) (hn2 : n2 ≤ 94000) (hc : cells ≤ 714529) (hs : slots ≤ 6893124)
    (hM : MetI l G yX7_save (wsG yX7_save cX7_save 1 (some .int)) (rmz f n1) [.ref (ad G 715)] X post) (hM2 : ∀ (r : Int32) (Y : St), post r Y → MetI l G yX8_save (wsG yX8_save cX8_save 1 (some .int)) (rmz f2 n2) [.ref (ad G 723)] Y (post2 Y)) (hstep : ∀ (r : Int32) (Y : St), post r Y → ∀ (r2 : Int32) (Z : St), post2 Y r2 Z → r = r2)
    (kk : ∀ (r : Int32) (Y : St), post r Y → ∀ (Z : St), post2 Y r Z → ∀ (H1 : Heap) (locs1 : List Loc), Wd G Z H1 → va_S (Ab G) s.heap H1 locs1 → W p l e room_1 s m args below meth c H1 locs1 cells slots Q (F0 m 2989 ls [])) : W p l e room_1 s m args below meth c H locs cells slots Q (F0 m 2932 ls []) := by
  have hx := C.1.1
  have hb := C.1.2.1
  refine lv_aload_n hx hb dL_law_2932 rfl (lv_at hl 1 rfl) ?_
  refine g_calli (va_runV (As := []) (rest := []) C.1 hM (cwV 0 C.1.2.2.2.2 (gV0 qw_768 qw_769 qw_770 qw_71 qw_771) rfl rfl rfl (by decide +kernel) ⟨by show f + 1 ≤ 2048; omega, by show 8 + (1 + 11) + n1 ≤ 94400; omega⟩) (g_rFoundry C hW hS []) rfl rfl hl.1 rfl (lv_room (Nat.le_of_ble_eq_true rfl)) dL_law_2933 ⟨hc, hs⟩) hS (fun r Y H1 locs1 hW1 hS1 hp => ?_)
  refine lv_aload_n hx hb dL_law_2936 rfl (lv_at hl 2 rfl) ?_
  refine g_calli (va_runV (As := []) (rest := [.int r]) C.1 (hM2 r Y hp) (cwV 0 C.1.2.2.2.2 (gV0 qw_1935 qw_1936 qw_1937 qw_81 qw_1938) rfl rfl rfl (by decide +kernel) ⟨by show f2 + 1 ≤ 2048; omega, by show 8 + (1 + 11) + n2 ≤ 94400; omega⟩) (g_rModel C hW1 hS1 []) rfl rfl hl.1 rfl (lv_room (Nat.le_of_ble_eq_true rfl)) dL_law_2937 ⟨hc, hs⟩) hS1 (fun r2 Z H2 locs2 hW2 hS2 hp2 => ?_)
  have he := hstep r Y hp r2 Z hp2
  subst he
  exact lv_icmp_eq (tgt := 2989) hx hb dL_law_2940 (by decide) (fun _ => kk r Y hp Z hp2 H2 locs2 hW2 hS2) (fun h => absurd rfl h)
end LE
