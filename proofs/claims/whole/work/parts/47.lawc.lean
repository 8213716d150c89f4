/-! The law's cases, one by one: for any contracts of the class's and the reference's methods whose posts agree. -/
section LK
variable {p : Program} {l : Launch} {e : Env} {s : State} {m : MethodId} {args : Array Value} {below : List Frame} {meth : Method} {c : Code} {H : Heap} {locs : List Loc} {cells slots : Nat} {Q : State → Prop}
variable {ls : Array Slot} {G : GT} {X : St} {b L : Nat} {xs : Nat → Int32}
theorem lW_charge : Cond.codeWith yL_charge cL_charge 6 (some .int) [(0, 12, 15, 13), (0, 12, 19, 15), (0, 12, 23, 17)] ∈ lw_all := lw_mem 788 (by decide +kernel) (by decide +kernel)
set_option maxHeartbeats 2000000 in
theorem lC_charge (C : Cx p m c cL_law 10 s args lw_all "FoundryLaw" G) (hX : va_X b L xs s s.heap) (hbl : b < s.heap.size) (hbA : ¬ Ab G b) (hS : va_S (Ab G) s.heap H locs) (hW : Wd G X H) {n : Nat} (hj : 4 * n + 3 < L) (hL : L < 2 ^ 31) (hl : lv_has ls 10 [(0, .ref b), (1, .ref (ad G 715)), (2, .ref (ad G 723)), (3, .ref (ad G 735)), (4, .ref (ad G 736)), (5, .int (nI (4 * n)))])
    {k f n1 f2 n2 : Nat} {post : Int32 → St → Prop} {postx : String → St → Prop} {post2 : St → Int32 → St → Prop} (hf : f ≤ 2000) (hn : n1 ≤ 94000) (hf2 : f2 ≤ 2000) (hn2 : n2 ≤ 94000) (hc : cells + k ≤ 714529) (hs : slots + 6 * k ≤ 6893124)
    (hM : MetXI l G k yX7_charge (wsG yX7_charge cX7_charge 4 (some .int)) (rmk k f n1) [.ref (ad G 715), .int (xs (4 * n + 1)), .int (((xs (4 * n + 2)).toUInt32 % 65536).toInt32), .int (xs (4 * n + 3))] X post postx) (hmem : ∀ (E : String) (Y : St), postx E Y → E ∈ ["java/lang/IndexOutOfBoundsException", "java/lang/IllegalArgumentException", "java/lang/UnsupportedOperationException"])
    (hM2 : ∀ (k9 : Int32) (Y : St), lpost ["java/lang/IndexOutOfBoundsException", "java/lang/IllegalArgumentException", "java/lang/UnsupportedOperationException"] id post postx k9 Y → MetI l G yX8_charge (wsG yX8_charge cX8_charge 4 (some .int)) (rmz f2 n2) [.ref (ad G 723), .int (xs (4 * n + 1)), .int (((xs (4 * n + 2)).toUInt32 % 65536).toInt32), .int (xs (4 * n + 3))] Y (post2 Y))
    (hstep : ∀ (k9 : Int32) (Y : St), lpost ["java/lang/IndexOutOfBoundsException", "java/lang/IllegalArgumentException", "java/lang/UnsupportedOperationException"] id post postx k9 Y → ∀ (r : Int32) (Z : St), post2 Y r Z → Z.1 15 0 = k9 ∧ (k9 = 0 → Z.1 27 0 = r))
    (kk : ∀ (k9 : Int32) (Y : St), lpost ["java/lang/IndexOutOfBoundsException", "java/lang/IllegalArgumentException", "java/lang/UnsupportedOperationException"] id post postx k9 Y → ∀ (r : Int32) (Z : St), post2 Y r Z → ∀ (H1 : Heap) (locs1 : List Loc) (ls1 : Array Slot), Wd G Z H1 → va_S (Ab G) s.heap H1 locs1 → lv_has ls1 10 [(7, .int r), (6, .int k9), (0, .ref b), (1, .ref (ad G 715)), (2, .ref (ad G 723)), (3, .ref (ad G 735)), (4, .ref (ad G 736)), (5, .int (nI (4 * n)))] → W p l e room_1 s m args below meth c H1 locs1 (cells + k) (slots + 6 * k) Q (F0 m 2989 ls1 [])) : W p l e room_1 s m args below meth c H locs cells slots Q (F0 m 264 ls []) := by
  have hx := C.1.1
  have hb := C.1.2.1
  refine lv_aload_n hx hb dL_law_264 rfl (lv_at hl 1 rfl) ?_
  refine lw_arg C hX hbl hbA hS 1 (by omega) hL (lv_at hl 0 rfl) (lv_at hl 5 rfl) (by decide) dL_law_265 dL_law_266 dL_law_268 dL_law_269 dL_law_270 ?_
  refine lw_argc C hX hbl hbA hS 2 (by omega) hL (lv_at hl 0 rfl) (lv_at hl 5 rfl) (by decide) dL_law_271 dL_law_272 dL_law_274 dL_law_275 dL_law_276 dL_law_277 ?_
  refine lw_arg C hX hbl hbA hS 3 (by omega) hL (lv_at hl 0 rfl) (lv_at hl 5 rfl) (by decide) dL_law_278 dL_law_279 dL_law_281 dL_law_282 dL_law_283 ?_
  refine lv_aload_n hx hb dL_law_284 rfl (lv_at hl 3 rfl) ?_
  refine g_cxi (vx_runSX (hh := [(0, 12, 15, 13), (0, 12, 19, 15), (0, 12, 23, 17)]) (As := [.ref (ad G 715), .int (xs (4 * n + 1)), .int (((xs (4 * n + 2)).toUInt32 % 65536).toInt32), .int (xs (4 * n + 3)), .ref (ad G 735)]) (rest := []) C.1 (hL_charge l G X (xs (4 * n + 1)) (((xs (4 * n + 2)).toUInt32 % 65536).toInt32) (xs (4 * n + 3)) hM hmem) (vx_cwSW 5 C.1.2.2.2.2 (gSW0 qw_786 qw_787 qw_70 lW_charge) rfl rfl rfl (by decide +kernel) ⟨by show f + 1 + 1 ≤ 2048; omega, by show 8 + (6 + 11) + (n1 + 23) ≤ 94400; omega⟩) (g_pre C hW hS [.ref (ad G 715), .int (xs (4 * n + 1)), .int (((xs (4 * n + 2)).toUInt32 % 65536).toInt32), .int (xs (4 * n + 3)), .ref (ad G 735)]) rfl rfl hl.1 rfl (lv_room (Nat.le_of_ble_eq_true rfl)) dL_law_285 ⟨hc, hs⟩) hS (fun _ _ _ _ _ _ _ _ h => h.elim) ?_
  intro k9 Y H1 locs1 hW1 hS1 hp
  refine lv_istore hx hb dL_law_288 hl (by decide) rfl (fun ls1 hl1 => ?_)
  replace hl1 : lv_has ls1 10 [(6, .int k9), (0, .ref b), (1, .ref (ad G 715)), (2, .ref (ad G 723)), (3, .ref (ad G 735)), (4, .ref (ad G 736)), (5, .int (nI (4 * n)))] := hl1
  refine lv_aload_n hx hb dL_law_290 rfl (lv_at hl1 3 rfl) ?_
  refine lw_arg C hX hbl hbA hS1 1 (by omega) hL (lv_at hl1 1 rfl) (lv_at hl1 6 rfl) (by decide) dL_law_291 dL_law_292 dL_law_294 dL_law_295 dL_law_296 ?_
  refine lw_argc C hX hbl hbA hS1 2 (by omega) hL (lv_at hl1 1 rfl) (lv_at hl1 6 rfl) (by decide) dL_law_297 dL_law_298 dL_law_300 dL_law_301 dL_law_302 dL_law_303 ?_
  refine lw_arg C hX hbl hbA hS1 3 (by omega) hL (lv_at hl1 1 rfl) (lv_at hl1 6 rfl) (by decide) dL_law_304 dL_law_305 dL_law_307 dL_law_308 dL_law_309 ?_
  refine g_calli (va_runV (As := [.int (xs (4 * n + 1)), .int (((xs (4 * n + 2)).toUInt32 % 65536).toInt32), .int (xs (4 * n + 3))]) (rest := []) C.1 (hM2 k9 Y hp) (cwV 3 C.1.2.2.2.2 (gV0 qw_1547 qw_1548 qw_1549 qw_81 qw_1550) rfl rfl rfl (by decide +kernel) ⟨by show f2 + 1 ≤ 2048; omega, by show 8 + (4 + 11) + n2 ≤ 94400; omega⟩) (g_rModel C hW1 hS1 [.int (xs (4 * n + 1)), .int (((xs (4 * n + 2)).toUInt32 % 65536).toInt32), .int (xs (4 * n + 3))]) rfl rfl hl1.1 rfl (lv_room (Nat.le_of_ble_eq_true rfl)) dL_law_310 ⟨hc, hs⟩) hS1 (fun r Z H2 locs2 hW2 hS2 hp2 => ?_)
  refine lv_istore hx hb dL_law_313 hl1 (by decide) rfl (fun ls2 hl2 => ?_)
  replace hl2 : lv_has ls2 10 [(7, .int r), (6, .int k9), (0, .ref b), (1, .ref (ad G 715)), (2, .ref (ad G 723)), (3, .ref (ad G 735)), (4, .ref (ad G 736)), (5, .int (nI (4 * n)))] := hl2
  obtain ⟨hs1, hs2⟩ := hstep k9 Y hp r Z hp2
  exact lw_cmp C hW2 hS2 hl2.1 (lv_at hl2 4 rfl) (lv_at hl2 5 rfl) (lv_at hl2 1 rfl) (lv_at hl2 0 rfl) hs1 hs2 hc hs dL_law_315 dL_law_316 dL_law_319 dL_law_321 dL_law_326 dL_law_328 dL_law_331 dL_law_332 dL_law_333 dL_law_334 dL_law_336 dL_law_337 dL_law_338 dL_law_343 (by decide) (fun H3 locs3 h1 h2 => kk k9 Y hp r Z hp2 H3 locs3 ls2 h1 h2 hl2)
theorem lW_setFire : Cond.codeWith yL_setFire cL_setFire 5 (some .int) [(0, 10, 13, 13), (0, 10, 17, 15)] ∈ lw_all := lw_mem 990 (by decide +kernel) (by decide +kernel)
set_option maxHeartbeats 2000000 in
theorem lC_setFire (C : Cx p m c cL_law 10 s args lw_all "FoundryLaw" G) (hX : va_X b L xs s s.heap) (hbl : b < s.heap.size) (hbA : ¬ Ab G b) (hS : va_S (Ab G) s.heap H locs) (hW : Wd G X H) {n : Nat} (hj : 4 * n + 3 < L) (hL : L < 2 ^ 31) (hl : lv_has ls 10 [(0, .ref b), (1, .ref (ad G 715)), (2, .ref (ad G 723)), (3, .ref (ad G 735)), (4, .ref (ad G 736)), (5, .int (nI (4 * n)))])
    {k f n1 f2 n2 : Nat} {post : Int32 → St → Prop} {postx : String → St → Prop} {post2 : St → Int32 → St → Prop} (hf : f ≤ 2000) (hn : n1 ≤ 94000) (hf2 : f2 ≤ 2000) (hn2 : n2 ≤ 94000) (hc : cells + k ≤ 714529) (hs : slots + 6 * k ≤ 6893124)
    (hM : MetXI l G k yX7_setFire (wsG yX7_setFire cX7_setFire 3 (some .int)) (rmk k f n1) [.ref (ad G 715), .int (xs (4 * n + 1)), .int (xs (4 * n + 2))] X post postx) (hmem : ∀ (E : String) (Y : St), postx E Y → E ∈ ["java/lang/IndexOutOfBoundsException", "java/lang/IllegalArgumentException"])
    (hM2 : ∀ (k9 : Int32) (Y : St), lpost ["java/lang/IndexOutOfBoundsException", "java/lang/IllegalArgumentException"] id post postx k9 Y → MetI l G yX8_setFire (wsG yX8_setFire cX8_setFire 3 (some .int)) (rmz f2 n2) [.ref (ad G 723), .int (xs (4 * n + 1)), .int (xs (4 * n + 2))] Y (post2 Y))
    (hstep : ∀ (k9 : Int32) (Y : St), lpost ["java/lang/IndexOutOfBoundsException", "java/lang/IllegalArgumentException"] id post postx k9 Y → ∀ (r : Int32) (Z : St), post2 Y r Z → Z.1 15 0 = k9 ∧ (k9 = 0 → Z.1 27 0 = r))
    (kk : ∀ (k9 : Int32) (Y : St), lpost ["java/lang/IndexOutOfBoundsException", "java/lang/IllegalArgumentException"] id post postx k9 Y → ∀ (r : Int32) (Z : St), post2 Y r Z → ∀ (H1 : Heap) (locs1 : List Loc) (ls1 : Array Slot), Wd G Z H1 → va_S (Ab G) s.heap H1 locs1 → lv_has ls1 10 [(7, .int r), (6, .int k9), (0, .ref b), (1, .ref (ad G 715)), (2, .ref (ad G 723)), (3, .ref (ad G 735)), (4, .ref (ad G 736)), (5, .int (nI (4 * n)))] → W p l e room_1 s m args below meth c H1 locs1 (cells + k) (slots + 6 * k) Q (F0 m 2989 ls1 [])) : W p l e room_1 s m args below meth c H locs cells slots Q (F0 m 346 ls []) := by
  have hx := C.1.1
  have hb := C.1.2.1
  refine lv_aload_n hx hb dL_law_346 rfl (lv_at hl 1 rfl) ?_
  refine lw_arg C hX hbl hbA hS 1 (by omega) hL (lv_at hl 0 rfl) (lv_at hl 5 rfl) (by decide) dL_law_347 dL_law_348 dL_law_350 dL_law_351 dL_law_352 ?_
  refine lw_arg C hX hbl hbA hS 2 (by omega) hL (lv_at hl 0 rfl) (lv_at hl 5 rfl) (by decide) dL_law_353 dL_law_354 dL_law_356 dL_law_357 dL_law_358 ?_
  refine lv_aload_n hx hb dL_law_359 rfl (lv_at hl 3 rfl) ?_
  refine g_cxi (vx_runSX (hh := [(0, 10, 13, 13), (0, 10, 17, 15)]) (As := [.ref (ad G 715), .int (xs (4 * n + 1)), .int (xs (4 * n + 2)), .ref (ad G 735)]) (rest := []) C.1 (hL_setFire l G X (xs (4 * n + 1)) (xs (4 * n + 2)) hM hmem) (vx_cwSW 4 C.1.2.2.2.2 (gSW0 qw_988 qw_989 qw_70 lW_setFire) rfl rfl rfl (by decide +kernel) ⟨by show f + 1 + 1 ≤ 2048; omega, by show 8 + (5 + 11) + (n1 + 22) ≤ 94400; omega⟩) (g_pre C hW hS [.ref (ad G 715), .int (xs (4 * n + 1)), .int (xs (4 * n + 2)), .ref (ad G 735)]) rfl rfl hl.1 rfl (lv_room (Nat.le_of_ble_eq_true rfl)) dL_law_360 ⟨hc, hs⟩) hS (fun _ _ _ _ _ _ _ _ h => h.elim) ?_
  intro k9 Y H1 locs1 hW1 hS1 hp
  refine lv_istore hx hb dL_law_363 hl (by decide) rfl (fun ls1 hl1 => ?_)
  replace hl1 : lv_has ls1 10 [(6, .int k9), (0, .ref b), (1, .ref (ad G 715)), (2, .ref (ad G 723)), (3, .ref (ad G 735)), (4, .ref (ad G 736)), (5, .int (nI (4 * n)))] := hl1
  refine lv_aload_n hx hb dL_law_365 rfl (lv_at hl1 3 rfl) ?_
  refine lw_arg C hX hbl hbA hS1 1 (by omega) hL (lv_at hl1 1 rfl) (lv_at hl1 6 rfl) (by decide) dL_law_366 dL_law_367 dL_law_369 dL_law_370 dL_law_371 ?_
  refine lw_arg C hX hbl hbA hS1 2 (by omega) hL (lv_at hl1 1 rfl) (lv_at hl1 6 rfl) (by decide) dL_law_372 dL_law_373 dL_law_375 dL_law_376 dL_law_377 ?_
  refine g_calli (va_runV (As := [.int (xs (4 * n + 1)), .int (xs (4 * n + 2))]) (rest := []) C.1 (hM2 k9 Y hp) (cwV 2 C.1.2.2.2.2 (gV0 qw_1595 qw_1596 qw_1597 qw_81 qw_1598) rfl rfl rfl (by decide +kernel) ⟨by show f2 + 1 ≤ 2048; omega, by show 8 + (3 + 11) + n2 ≤ 94400; omega⟩) (g_rModel C hW1 hS1 [.int (xs (4 * n + 1)), .int (xs (4 * n + 2))]) rfl rfl hl1.1 rfl (lv_room (Nat.le_of_ble_eq_true rfl)) dL_law_378 ⟨hc, hs⟩) hS1 (fun r Z H2 locs2 hW2 hS2 hp2 => ?_)
  refine lv_istore hx hb dL_law_381 hl1 (by decide) rfl (fun ls2 hl2 => ?_)
  replace hl2 : lv_has ls2 10 [(7, .int r), (6, .int k9), (0, .ref b), (1, .ref (ad G 715)), (2, .ref (ad G 723)), (3, .ref (ad G 735)), (4, .ref (ad G 736)), (5, .int (nI (4 * n)))] := hl2
  obtain ⟨hs1, hs2⟩ := hstep k9 Y hp r Z hp2
  exact lw_cmp C hW2 hS2 hl2.1 (lv_at hl2 4 rfl) (lv_at hl2 5 rfl) (lv_at hl2 1 rfl) (lv_at hl2 0 rfl) hs1 hs2 hc hs dL_law_383 dL_law_384 dL_law_387 dL_law_389 dL_law_394 dL_law_396 dL_law_399 dL_law_400 dL_law_401 dL_law_402 dL_law_404 dL_law_405 dL_law_406 dL_law_411 (by decide) (fun H3 locs3 h1 h2 => kk k9 Y hp r Z hp2 H3 locs3 ls2 h1 h2 hl2)
theorem lW_skim : Cond.codeWith yL_skim cL_skim 4 (some .int) [(0, 9, 12, 13), (0, 9, 15, 27), (0, 9, 18, 29)] ∈ lw_all := lw_mem 999 (by decide +kernel) (by decide +kernel)
set_option maxHeartbeats 2000000 in
theorem lC_skim (C : Cx p m c cL_law 10 s args lw_all "FoundryLaw" G) (hX : va_X b L xs s s.heap) (hbl : b < s.heap.size) (hbA : ¬ Ab G b) (hS : va_S (Ab G) s.heap H locs) (hW : Wd G X H) {n : Nat} (hj : 4 * n + 3 < L) (hL : L < 2 ^ 31) (hl : lv_has ls 10 [(0, .ref b), (1, .ref (ad G 715)), (2, .ref (ad G 723)), (3, .ref (ad G 735)), (4, .ref (ad G 736)), (5, .int (nI (4 * n)))])
    {k f n1 f2 n2 : Nat} {post : Int32 → St → Prop} {postx : String → St → Prop} {post2 : St → Int32 → St → Prop} (hf : f ≤ 2000) (hn : n1 ≤ 94000) (hf2 : f2 ≤ 2000) (hn2 : n2 ≤ 94000) (hc : cells + k ≤ 714529) (hs : slots + 6 * k ≤ 6893124)
    (hM : MetXI l G k yX7_skim (wsG yX7_skim cX7_skim 2 (some .int)) (rmk k f n1) [.ref (ad G 715), .int (xs (4 * n + 1))] X post postx) (hmem : ∀ (E : String) (Y : St), postx E Y → E ∈ ["java/lang/IndexOutOfBoundsException", "java/util/NoSuchElementException", "java/lang/IllegalStateException"])
    (hM2 : ∀ (k9 : Int32) (Y : St), lpost ["java/lang/IndexOutOfBoundsException", "java/util/NoSuchElementException", "java/lang/IllegalStateException"] id post postx k9 Y → MetI l G yX8_skim (wsG yX8_skim cX8_skim 2 (some .int)) (rmz f2 n2) [.ref (ad G 723), .int (xs (4 * n + 1))] Y (post2 Y))
    (hstep : ∀ (k9 : Int32) (Y : St), lpost ["java/lang/IndexOutOfBoundsException", "java/util/NoSuchElementException", "java/lang/IllegalStateException"] id post postx k9 Y → ∀ (r : Int32) (Z : St), post2 Y r Z → Z.1 15 0 = k9 ∧ (k9 = 0 → Z.1 27 0 = r))
    (kk : ∀ (k9 : Int32) (Y : St), lpost ["java/lang/IndexOutOfBoundsException", "java/util/NoSuchElementException", "java/lang/IllegalStateException"] id post postx k9 Y → ∀ (r : Int32) (Z : St), post2 Y r Z → ∀ (H1 : Heap) (locs1 : List Loc) (ls1 : Array Slot), Wd G Z H1 → va_S (Ab G) s.heap H1 locs1 → lv_has ls1 10 [(7, .int r), (6, .int k9), (0, .ref b), (1, .ref (ad G 715)), (2, .ref (ad G 723)), (3, .ref (ad G 735)), (4, .ref (ad G 736)), (5, .int (nI (4 * n)))] → W p l e room_1 s m args below meth c H1 locs1 (cells + k) (slots + 6 * k) Q (F0 m 2989 ls1 [])) : W p l e room_1 s m args below meth c H locs cells slots Q (F0 m 414 ls []) := by
  have hx := C.1.1
  have hb := C.1.2.1
  refine lv_aload_n hx hb dL_law_414 rfl (lv_at hl 1 rfl) ?_
  refine lw_arg C hX hbl hbA hS 1 (by omega) hL (lv_at hl 0 rfl) (lv_at hl 5 rfl) (by decide) dL_law_415 dL_law_416 dL_law_418 dL_law_419 dL_law_420 ?_
  refine lv_aload_n hx hb dL_law_421 rfl (lv_at hl 3 rfl) ?_
  refine g_cxi (vx_runSX (hh := [(0, 9, 12, 13), (0, 9, 15, 27), (0, 9, 18, 29)]) (As := [.ref (ad G 715), .int (xs (4 * n + 1)), .ref (ad G 735)]) (rest := []) C.1 (hL_skim l G X (xs (4 * n + 1)) hM hmem) (vx_cwSW 3 C.1.2.2.2.2 (gSW0 qw_997 qw_998 qw_70 lW_skim) rfl rfl rfl (by decide +kernel) ⟨by show f + 1 + 1 ≤ 2048; omega, by show 8 + (4 + 11) + (n1 + 21) ≤ 94400; omega⟩) (g_pre C hW hS [.ref (ad G 715), .int (xs (4 * n + 1)), .ref (ad G 735)]) rfl rfl hl.1 rfl (lv_room (Nat.le_of_ble_eq_true rfl)) dL_law_422 ⟨hc, hs⟩) hS (fun _ _ _ _ _ _ _ _ h => h.elim) ?_
  intro k9 Y H1 locs1 hW1 hS1 hp
  refine lv_istore hx hb dL_law_425 hl (by decide) rfl (fun ls1 hl1 => ?_)
  replace hl1 : lv_has ls1 10 [(6, .int k9), (0, .ref b), (1, .ref (ad G 715)), (2, .ref (ad G 723)), (3, .ref (ad G 735)), (4, .ref (ad G 736)), (5, .int (nI (4 * n)))] := hl1
  refine lv_aload_n hx hb dL_law_427 rfl (lv_at hl1 3 rfl) ?_
  refine lw_arg C hX hbl hbA hS1 1 (by omega) hL (lv_at hl1 1 rfl) (lv_at hl1 6 rfl) (by decide) dL_law_428 dL_law_429 dL_law_431 dL_law_432 dL_law_433 ?_
  refine g_calli (va_runV (As := [.int (xs (4 * n + 1))]) (rest := []) C.1 (hM2 k9 Y hp) (cwV 1 C.1.2.2.2.2 (gV0 qw_1603 qw_1604 qw_1605 qw_81 qw_1606) rfl rfl rfl (by decide +kernel) ⟨by show f2 + 1 ≤ 2048; omega, by show 8 + (2 + 11) + n2 ≤ 94400; omega⟩) (g_rModel C hW1 hS1 [.int (xs (4 * n + 1))]) rfl rfl hl1.1 rfl (lv_room (Nat.le_of_ble_eq_true rfl)) dL_law_434 ⟨hc, hs⟩) hS1 (fun r Z H2 locs2 hW2 hS2 hp2 => ?_)
  refine lv_istore hx hb dL_law_437 hl1 (by decide) rfl (fun ls2 hl2 => ?_)
  replace hl2 : lv_has ls2 10 [(7, .int r), (6, .int k9), (0, .ref b), (1, .ref (ad G 715)), (2, .ref (ad G 723)), (3, .ref (ad G 735)), (4, .ref (ad G 736)), (5, .int (nI (4 * n)))] := hl2
  obtain ⟨hs1, hs2⟩ := hstep k9 Y hp r Z hp2
  exact lw_cmp C hW2 hS2 hl2.1 (lv_at hl2 4 rfl) (lv_at hl2 5 rfl) (lv_at hl2 1 rfl) (lv_at hl2 0 rfl) hs1 hs2 hc hs dL_law_439 dL_law_440 dL_law_443 dL_law_445 dL_law_450 dL_law_452 dL_law_455 dL_law_456 dL_law_457 dL_law_458 dL_law_460 dL_law_461 dL_law_462 dL_law_467 (by decide) (fun H3 locs3 h1 h2 => kk k9 Y hp r Z hp2 H3 locs3 ls2 h1 h2 hl2)
theorem lW_tap : Cond.codeWith yL_tap cL_tap 6 (some .int) [(0, 12, 15, 13), (0, 12, 19, 15), (0, 12, 23, 27), (0, 12, 27, 29), (0, 12, 31, 17)] ∈ lw_all := lw_mem 1010 (by decide +kernel) (by decide +kernel)
set_option maxHeartbeats 2000000 in
theorem lC_tap (C : Cx p m c cL_law 10 s args lw_all "FoundryLaw" G) (hX : va_X b L xs s s.heap) (hbl : b < s.heap.size) (hbA : ¬ Ab G b) (hS : va_S (Ab G) s.heap H locs) (hW : Wd G X H) {n : Nat} (hj : 4 * n + 3 < L) (hL : L < 2 ^ 31) (hl : lv_has ls 10 [(0, .ref b), (1, .ref (ad G 715)), (2, .ref (ad G 723)), (3, .ref (ad G 735)), (4, .ref (ad G 736)), (5, .int (nI (4 * n)))])
    {k f n1 f2 n2 : Nat} {post : Int32 → St → Prop} {postx : String → St → Prop} {post2 : St → Int32 → St → Prop} (hf : f ≤ 2000) (hn : n1 ≤ 94000) (hf2 : f2 ≤ 2000) (hn2 : n2 ≤ 94000) (hc : cells + k ≤ 714529) (hs : slots + 6 * k ≤ 6893124)
    (hM : MetXI l G k yX7_tap (wsG yX7_tap cX7_tap 4 (some .int)) (rmk k f n1) [.ref (ad G 715), .int (xs (4 * n + 1)), .int (xs (4 * n + 2)), .int (xs (4 * n + 3))] X post postx) (hmem : ∀ (E : String) (Y : St), postx E Y → E ∈ ["java/lang/IndexOutOfBoundsException", "java/lang/IllegalArgumentException", "java/util/NoSuchElementException", "java/lang/IllegalStateException", "java/lang/UnsupportedOperationException"])
    (hM2 : ∀ (k9 : Int32) (Y : St), lpost ["java/lang/IndexOutOfBoundsException", "java/lang/IllegalArgumentException", "java/util/NoSuchElementException", "java/lang/IllegalStateException", "java/lang/UnsupportedOperationException"] id post postx k9 Y → MetI l G yX8_tap (wsG yX8_tap cX8_tap 4 (some .int)) (rmz f2 n2) [.ref (ad G 723), .int (xs (4 * n + 1)), .int (xs (4 * n + 2)), .int (xs (4 * n + 3))] Y (post2 Y))
    (hstep : ∀ (k9 : Int32) (Y : St), lpost ["java/lang/IndexOutOfBoundsException", "java/lang/IllegalArgumentException", "java/util/NoSuchElementException", "java/lang/IllegalStateException", "java/lang/UnsupportedOperationException"] id post postx k9 Y → ∀ (r : Int32) (Z : St), post2 Y r Z → Z.1 15 0 = k9 ∧ (k9 = 0 → Z.1 27 0 = r))
    (kk : ∀ (k9 : Int32) (Y : St), lpost ["java/lang/IndexOutOfBoundsException", "java/lang/IllegalArgumentException", "java/util/NoSuchElementException", "java/lang/IllegalStateException", "java/lang/UnsupportedOperationException"] id post postx k9 Y → ∀ (r : Int32) (Z : St), post2 Y r Z → ∀ (H1 : Heap) (locs1 : List Loc) (ls1 : Array Slot), Wd G Z H1 → va_S (Ab G) s.heap H1 locs1 → lv_has ls1 10 [(7, .int r), (6, .int k9), (0, .ref b), (1, .ref (ad G 715)), (2, .ref (ad G 723)), (3, .ref (ad G 735)), (4, .ref (ad G 736)), (5, .int (nI (4 * n)))] → W p l e room_1 s m args below meth c H1 locs1 (cells + k) (slots + 6 * k) Q (F0 m 2989 ls1 [])) : W p l e room_1 s m args below meth c H locs cells slots Q (F0 m 470 ls []) := by
  have hx := C.1.1
  have hb := C.1.2.1
  refine lv_aload_n hx hb dL_law_470 rfl (lv_at hl 1 rfl) ?_
  refine lw_arg C hX hbl hbA hS 1 (by omega) hL (lv_at hl 0 rfl) (lv_at hl 5 rfl) (by decide) dL_law_471 dL_law_472 dL_law_474 dL_law_475 dL_law_476 ?_
  refine lw_arg C hX hbl hbA hS 2 (by omega) hL (lv_at hl 0 rfl) (lv_at hl 5 rfl) (by decide) dL_law_477 dL_law_478 dL_law_480 dL_law_481 dL_law_482 ?_
  refine lw_arg C hX hbl hbA hS 3 (by omega) hL (lv_at hl 0 rfl) (lv_at hl 5 rfl) (by decide) dL_law_483 dL_law_484 dL_law_486 dL_law_487 dL_law_488 ?_
  refine lv_aload_n hx hb dL_law_489 rfl (lv_at hl 3 rfl) ?_
  refine g_cxi (vx_runSX (hh := [(0, 12, 15, 13), (0, 12, 19, 15), (0, 12, 23, 27), (0, 12, 27, 29), (0, 12, 31, 17)]) (As := [.ref (ad G 715), .int (xs (4 * n + 1)), .int (xs (4 * n + 2)), .int (xs (4 * n + 3)), .ref (ad G 735)]) (rest := []) C.1 (hL_tap l G X (xs (4 * n + 1)) (xs (4 * n + 2)) (xs (4 * n + 3)) hM hmem) (vx_cwSW 5 C.1.2.2.2.2 (gSW0 qw_1008 qw_1009 qw_70 lW_tap) rfl rfl rfl (by decide +kernel) ⟨by show f + 1 + 1 ≤ 2048; omega, by show 8 + (6 + 11) + (n1 + 23) ≤ 94400; omega⟩) (g_pre C hW hS [.ref (ad G 715), .int (xs (4 * n + 1)), .int (xs (4 * n + 2)), .int (xs (4 * n + 3)), .ref (ad G 735)]) rfl rfl hl.1 rfl (lv_room (Nat.le_of_ble_eq_true rfl)) dL_law_490 ⟨hc, hs⟩) hS (fun _ _ _ _ _ _ _ _ h => h.elim) ?_
  intro k9 Y H1 locs1 hW1 hS1 hp
  refine lv_istore hx hb dL_law_493 hl (by decide) rfl (fun ls1 hl1 => ?_)
  replace hl1 : lv_has ls1 10 [(6, .int k9), (0, .ref b), (1, .ref (ad G 715)), (2, .ref (ad G 723)), (3, .ref (ad G 735)), (4, .ref (ad G 736)), (5, .int (nI (4 * n)))] := hl1
  refine lv_aload_n hx hb dL_law_495 rfl (lv_at hl1 3 rfl) ?_
  refine lw_arg C hX hbl hbA hS1 1 (by omega) hL (lv_at hl1 1 rfl) (lv_at hl1 6 rfl) (by decide) dL_law_496 dL_law_497 dL_law_499 dL_law_500 dL_law_501 ?_
  refine lw_arg C hX hbl hbA hS1 2 (by omega) hL (lv_at hl1 1 rfl) (lv_at hl1 6 rfl) (by decide) dL_law_502 dL_law_503 dL_law_505 dL_law_506 dL_law_507 ?_
  refine lw_arg C hX hbl hbA hS1 3 (by omega) hL (lv_at hl1 1 rfl) (lv_at hl1 6 rfl) (by decide) dL_law_508 dL_law_509 dL_law_511 dL_law_512 dL_law_513 ?_
  refine g_calli (va_runV (As := [.int (xs (4 * n + 1)), .int (xs (4 * n + 2)), .int (xs (4 * n + 3))]) (rest := []) C.1 (hM2 k9 Y hp) (cwV 3 C.1.2.2.2.2 (gV0 qw_1619 qw_1620 qw_1621 qw_81 qw_1622) rfl rfl rfl (by decide +kernel) ⟨by show f2 + 1 ≤ 2048; omega, by show 8 + (4 + 11) + n2 ≤ 94400; omega⟩) (g_rModel C hW1 hS1 [.int (xs (4 * n + 1)), .int (xs (4 * n + 2)), .int (xs (4 * n + 3))]) rfl rfl hl1.1 rfl (lv_room (Nat.le_of_ble_eq_true rfl)) dL_law_514 ⟨hc, hs⟩) hS1 (fun r Z H2 locs2 hW2 hS2 hp2 => ?_)
  refine lv_istore hx hb dL_law_517 hl1 (by decide) rfl (fun ls2 hl2 => ?_)
  replace hl2 : lv_has ls2 10 [(7, .int r), (6, .int k9), (0, .ref b), (1, .ref (ad G 715)), (2, .ref (ad G 723)), (3, .ref (ad G 735)), (4, .ref (ad G 736)), (5, .int (nI (4 * n)))] := hl2
  obtain ⟨hs1, hs2⟩ := hstep k9 Y hp r Z hp2
  exact lw_cmp C hW2 hS2 hl2.1 (lv_at hl2 4 rfl) (lv_at hl2 5 rfl) (lv_at hl2 1 rfl) (lv_at hl2 0 rfl) hs1 hs2 hc hs dL_law_519 dL_law_520 dL_law_523 dL_law_525 dL_law_530 dL_law_532 dL_law_535 dL_law_536 dL_law_537 dL_law_538 dL_law_540 dL_law_541 dL_law_542 dL_law_547 (by decide) (fun H3 locs3 h1 h2 => kk k9 Y hp r Z hp2 H3 locs3 ls2 h1 h2 hl2)
theorem lW_pourBack : Cond.codeWith yL_pourBack cL_pourBack 5 (some .int) [(0, 10, 13, 13), (0, 10, 17, 27), (0, 10, 21, 17)] ∈ lw_all := lw_mem 1019 (by decide +kernel) (by decide +kernel)
set_option maxHeartbeats 2000000 in
theorem lC_pourBack (C : Cx p m c cL_law 10 s args lw_all "FoundryLaw" G) (hX : va_X b L xs s s.heap) (hbl : b < s.heap.size) (hbA : ¬ Ab G b) (hS : va_S (Ab G) s.heap H locs) (hW : Wd G X H) {n : Nat} (hj : 4 * n + 3 < L) (hL : L < 2 ^ 31) (hl : lv_has ls 10 [(0, .ref b), (1, .ref (ad G 715)), (2, .ref (ad G 723)), (3, .ref (ad G 735)), (4, .ref (ad G 736)), (5, .int (nI (4 * n)))])
    {k f n1 f2 n2 : Nat} {post : Int32 → St → Prop} {postx : String → St → Prop} {post2 : St → Int32 → St → Prop} (hf : f ≤ 2000) (hn : n1 ≤ 94000) (hf2 : f2 ≤ 2000) (hn2 : n2 ≤ 94000) (hc : cells + k ≤ 714529) (hs : slots + 6 * k ≤ 6893124)
    (hM : MetXI l G k yX7_pourBack (wsG yX7_pourBack cX7_pourBack 3 (some .int)) (rmk k f n1) [.ref (ad G 715), .int (xs (4 * n + 1)), .int (xs (4 * n + 2))] X post postx) (hmem : ∀ (E : String) (Y : St), postx E Y → E ∈ ["java/lang/IndexOutOfBoundsException", "java/util/NoSuchElementException", "java/lang/UnsupportedOperationException"])
    (hM2 : ∀ (k9 : Int32) (Y : St), lpost ["java/lang/IndexOutOfBoundsException", "java/util/NoSuchElementException", "java/lang/UnsupportedOperationException"] id post postx k9 Y → MetI l G yX8_pourBack (wsG yX8_pourBack cX8_pourBack 3 (some .int)) (rmz f2 n2) [.ref (ad G 723), .int (xs (4 * n + 1)), .int (xs (4 * n + 2))] Y (post2 Y))
    (hstep : ∀ (k9 : Int32) (Y : St), lpost ["java/lang/IndexOutOfBoundsException", "java/util/NoSuchElementException", "java/lang/UnsupportedOperationException"] id post postx k9 Y → ∀ (r : Int32) (Z : St), post2 Y r Z → Z.1 15 0 = k9 ∧ (k9 = 0 → Z.1 27 0 = r))
    (kk : ∀ (k9 : Int32) (Y : St), lpost ["java/lang/IndexOutOfBoundsException", "java/util/NoSuchElementException", "java/lang/UnsupportedOperationException"] id post postx k9 Y → ∀ (r : Int32) (Z : St), post2 Y r Z → ∀ (H1 : Heap) (locs1 : List Loc) (ls1 : Array Slot), Wd G Z H1 → va_S (Ab G) s.heap H1 locs1 → lv_has ls1 10 [(7, .int r), (6, .int k9), (0, .ref b), (1, .ref (ad G 715)), (2, .ref (ad G 723)), (3, .ref (ad G 735)), (4, .ref (ad G 736)), (5, .int (nI (4 * n)))] → W p l e room_1 s m args below meth c H1 locs1 (cells + k) (slots + 6 * k) Q (F0 m 2989 ls1 [])) : W p l e room_1 s m args below meth c H locs cells slots Q (F0 m 550 ls []) := by
  have hx := C.1.1
  have hb := C.1.2.1
  refine lv_aload_n hx hb dL_law_550 rfl (lv_at hl 1 rfl) ?_
  refine lw_arg C hX hbl hbA hS 1 (by omega) hL (lv_at hl 0 rfl) (lv_at hl 5 rfl) (by decide) dL_law_551 dL_law_552 dL_law_554 dL_law_555 dL_law_556 ?_
  refine lw_arg C hX hbl hbA hS 2 (by omega) hL (lv_at hl 0 rfl) (lv_at hl 5 rfl) (by decide) dL_law_557 dL_law_558 dL_law_560 dL_law_561 dL_law_562 ?_
  refine lv_aload_n hx hb dL_law_563 rfl (lv_at hl 3 rfl) ?_
  refine g_cxi (vx_runSX (hh := [(0, 10, 13, 13), (0, 10, 17, 27), (0, 10, 21, 17)]) (As := [.ref (ad G 715), .int (xs (4 * n + 1)), .int (xs (4 * n + 2)), .ref (ad G 735)]) (rest := []) C.1 (hL_pourBack l G X (xs (4 * n + 1)) (xs (4 * n + 2)) hM hmem) (vx_cwSW 4 C.1.2.2.2.2 (gSW0 qw_1017 qw_1018 qw_70 lW_pourBack) rfl rfl rfl (by decide +kernel) ⟨by show f + 1 + 1 ≤ 2048; omega, by show 8 + (5 + 11) + (n1 + 22) ≤ 94400; omega⟩) (g_pre C hW hS [.ref (ad G 715), .int (xs (4 * n + 1)), .int (xs (4 * n + 2)), .ref (ad G 735)]) rfl rfl hl.1 rfl (lv_room (Nat.le_of_ble_eq_true rfl)) dL_law_564 ⟨hc, hs⟩) hS (fun _ _ _ _ _ _ _ _ h => h.elim) ?_
  intro k9 Y H1 locs1 hW1 hS1 hp
  refine lv_istore hx hb dL_law_567 hl (by decide) rfl (fun ls1 hl1 => ?_)
  replace hl1 : lv_has ls1 10 [(6, .int k9), (0, .ref b), (1, .ref (ad G 715)), (2, .ref (ad G 723)), (3, .ref (ad G 735)), (4, .ref (ad G 736)), (5, .int (nI (4 * n)))] := hl1
  refine lv_aload_n hx hb dL_law_569 rfl (lv_at hl1 3 rfl) ?_
  refine lw_arg C hX hbl hbA hS1 1 (by omega) hL (lv_at hl1 1 rfl) (lv_at hl1 6 rfl) (by decide) dL_law_570 dL_law_571 dL_law_573 dL_law_574 dL_law_575 ?_
  refine lw_arg C hX hbl hbA hS1 2 (by omega) hL (lv_at hl1 1 rfl) (lv_at hl1 6 rfl) (by decide) dL_law_576 dL_law_577 dL_law_579 dL_law_580 dL_law_581 ?_
  refine g_calli (va_runV (As := [.int (xs (4 * n + 1)), .int (xs (4 * n + 2))]) (rest := []) C.1 (hM2 k9 Y hp) (cwV 2 C.1.2.2.2.2 (gV0 qw_1635 qw_1636 qw_1637 qw_81 qw_1638) rfl rfl rfl (by decide +kernel) ⟨by show f2 + 1 ≤ 2048; omega, by show 8 + (3 + 11) + n2 ≤ 94400; omega⟩) (g_rModel C hW1 hS1 [.int (xs (4 * n + 1)), .int (xs (4 * n + 2))]) rfl rfl hl1.1 rfl (lv_room (Nat.le_of_ble_eq_true rfl)) dL_law_582 ⟨hc, hs⟩) hS1 (fun r Z H2 locs2 hW2 hS2 hp2 => ?_)
  refine lv_istore hx hb dL_law_585 hl1 (by decide) rfl (fun ls2 hl2 => ?_)
  replace hl2 : lv_has ls2 10 [(7, .int r), (6, .int k9), (0, .ref b), (1, .ref (ad G 715)), (2, .ref (ad G 723)), (3, .ref (ad G 735)), (4, .ref (ad G 736)), (5, .int (nI (4 * n)))] := hl2
  obtain ⟨hs1, hs2⟩ := hstep k9 Y hp r Z hp2
  exact lw_cmp C hW2 hS2 hl2.1 (lv_at hl2 4 rfl) (lv_at hl2 5 rfl) (lv_at hl2 1 rfl) (lv_at hl2 0 rfl) hs1 hs2 hc hs dL_law_587 dL_law_588 dL_law_591 dL_law_593 dL_law_598 dL_law_600 dL_law_603 dL_law_604 dL_law_605 dL_law_606 dL_law_608 dL_law_609 dL_law_610 dL_law_615 (by decide) (fun H3 locs3 h1 h2 => kk k9 Y hp r Z hp2 H3 locs3 ls2 h1 h2 hl2)
theorem lW_addMould : Cond.codeWith yL_addMould cL_addMould 4 (some .int) [(0, 9, 12, 15), (0, 9, 15, 29)] ∈ lw_all := lw_mem 1028 (by decide +kernel) (by decide +kernel)
set_option maxHeartbeats 2000000 in
theorem lC_addMould (C : Cx p m c cL_law 10 s args lw_all "FoundryLaw" G) (hX : va_X b L xs s s.heap) (hbl : b < s.heap.size) (hbA : ¬ Ab G b) (hS : va_S (Ab G) s.heap H locs) (hW : Wd G X H) {n : Nat} (hj : 4 * n + 3 < L) (hL : L < 2 ^ 31) (hl : lv_has ls 10 [(0, .ref b), (1, .ref (ad G 715)), (2, .ref (ad G 723)), (3, .ref (ad G 735)), (4, .ref (ad G 736)), (5, .int (nI (4 * n)))])
    {k f n1 f2 n2 : Nat} {post : Int32 → St → Prop} {postx : String → St → Prop} {post2 : St → Int32 → St → Prop} (hf : f ≤ 2000) (hn : n1 ≤ 94000) (hf2 : f2 ≤ 2000) (hn2 : n2 ≤ 94000) (hc : cells + k ≤ 714529) (hs : slots + 6 * k ≤ 6893124)
    (hM : MetXI l G k yX7_addMould (wsG yX7_addMould cX7_addMould 2 (some .int)) (rmk k f n1) [.ref (ad G 715), .int (xs (4 * n + 1))] X post postx) (hmem : ∀ (E : String) (Y : St), postx E Y → E ∈ ["java/lang/IllegalArgumentException", "java/lang/IllegalStateException"])
    (hM2 : ∀ (k9 : Int32) (Y : St), lpost ["java/lang/IllegalArgumentException", "java/lang/IllegalStateException"] id post postx k9 Y → MetI l G yX8_addMould (wsG yX8_addMould cX8_addMould 2 (some .int)) (rmz f2 n2) [.ref (ad G 723), .int (xs (4 * n + 1))] Y (post2 Y))
    (hstep : ∀ (k9 : Int32) (Y : St), lpost ["java/lang/IllegalArgumentException", "java/lang/IllegalStateException"] id post postx k9 Y → ∀ (r : Int32) (Z : St), post2 Y r Z → Z.1 15 0 = k9 ∧ (k9 = 0 → Z.1 27 0 = r))
    (kk : ∀ (k9 : Int32) (Y : St), lpost ["java/lang/IllegalArgumentException", "java/lang/IllegalStateException"] id post postx k9 Y → ∀ (r : Int32) (Z : St), post2 Y r Z → ∀ (H1 : Heap) (locs1 : List Loc) (ls1 : Array Slot), Wd G Z H1 → va_S (Ab G) s.heap H1 locs1 → lv_has ls1 10 [(7, .int r), (6, .int k9), (0, .ref b), (1, .ref (ad G 715)), (2, .ref (ad G 723)), (3, .ref (ad G 735)), (4, .ref (ad G 736)), (5, .int (nI (4 * n)))] → W p l e room_1 s m args below meth c H1 locs1 (cells + k) (slots + 6 * k) Q (F0 m 2989 ls1 [])) : W p l e room_1 s m args below meth c H locs cells slots Q (F0 m 618 ls []) := by
  have hx := C.1.1
  have hb := C.1.2.1
  refine lv_aload_n hx hb dL_law_618 rfl (lv_at hl 1 rfl) ?_
  refine lw_arg C hX hbl hbA hS 1 (by omega) hL (lv_at hl 0 rfl) (lv_at hl 5 rfl) (by decide) dL_law_619 dL_law_620 dL_law_622 dL_law_623 dL_law_624 ?_
  refine lv_aload_n hx hb dL_law_625 rfl (lv_at hl 3 rfl) ?_
  refine g_cxi (vx_runSX (hh := [(0, 9, 12, 15), (0, 9, 15, 29)]) (As := [.ref (ad G 715), .int (xs (4 * n + 1)), .ref (ad G 735)]) (rest := []) C.1 (hL_addMould l G X (xs (4 * n + 1)) hM hmem) (vx_cwSW 3 C.1.2.2.2.2 (gSW0 qw_1026 qw_1027 qw_70 lW_addMould) rfl rfl rfl (by decide +kernel) ⟨by show f + 1 + 1 ≤ 2048; omega, by show 8 + (4 + 11) + (n1 + 21) ≤ 94400; omega⟩) (g_pre C hW hS [.ref (ad G 715), .int (xs (4 * n + 1)), .ref (ad G 735)]) rfl rfl hl.1 rfl (lv_room (Nat.le_of_ble_eq_true rfl)) dL_law_626 ⟨hc, hs⟩) hS (fun _ _ _ _ _ _ _ _ h => h.elim) ?_
  intro k9 Y H1 locs1 hW1 hS1 hp
  refine lv_istore hx hb dL_law_629 hl (by decide) rfl (fun ls1 hl1 => ?_)
  replace hl1 : lv_has ls1 10 [(6, .int k9), (0, .ref b), (1, .ref (ad G 715)), (2, .ref (ad G 723)), (3, .ref (ad G 735)), (4, .ref (ad G 736)), (5, .int (nI (4 * n)))] := hl1
  refine lv_aload_n hx hb dL_law_631 rfl (lv_at hl1 3 rfl) ?_
  refine lw_arg C hX hbl hbA hS1 1 (by omega) hL (lv_at hl1 1 rfl) (lv_at hl1 6 rfl) (by decide) dL_law_632 dL_law_633 dL_law_635 dL_law_636 dL_law_637 ?_
  refine g_calli (va_runV (As := [.int (xs (4 * n + 1))]) (rest := []) C.1 (hM2 k9 Y hp) (cwV 1 C.1.2.2.2.2 (gV0 qw_1647 qw_1648 qw_1649 qw_81 qw_1650) rfl rfl rfl (by decide +kernel) ⟨by show f2 + 1 ≤ 2048; omega, by show 8 + (2 + 11) + n2 ≤ 94400; omega⟩) (g_rModel C hW1 hS1 [.int (xs (4 * n + 1))]) rfl rfl hl1.1 rfl (lv_room (Nat.le_of_ble_eq_true rfl)) dL_law_638 ⟨hc, hs⟩) hS1 (fun r Z H2 locs2 hW2 hS2 hp2 => ?_)
  refine lv_istore hx hb dL_law_641 hl1 (by decide) rfl (fun ls2 hl2 => ?_)
  replace hl2 : lv_has ls2 10 [(7, .int r), (6, .int k9), (0, .ref b), (1, .ref (ad G 715)), (2, .ref (ad G 723)), (3, .ref (ad G 735)), (4, .ref (ad G 736)), (5, .int (nI (4 * n)))] := hl2
  obtain ⟨hs1, hs2⟩ := hstep k9 Y hp r Z hp2
  exact lw_cmp C hW2 hS2 hl2.1 (lv_at hl2 4 rfl) (lv_at hl2 5 rfl) (lv_at hl2 1 rfl) (lv_at hl2 0 rfl) hs1 hs2 hc hs dL_law_643 dL_law_644 dL_law_647 dL_law_649 dL_law_654 dL_law_656 dL_law_659 dL_law_660 dL_law_661 dL_law_662 dL_law_664 dL_law_665 dL_law_666 dL_law_671 (by decide) (fun H3 locs3 h1 h2 => kk k9 Y hp r Z hp2 H3 locs3 ls2 h1 h2 hl2)
theorem lW_pour : Cond.codeWith yL_pour cL_pour 5 (some .int) [(0, 10, 13, 13), (0, 10, 17, 29), (0, 10, 21, 27), (0, 10, 25, 17)] ∈ lw_all := lw_mem 1037 (by decide +kernel) (by decide +kernel)
set_option maxHeartbeats 2000000 in
theorem lC_pour (C : Cx p m c cL_law 10 s args lw_all "FoundryLaw" G) (hX : va_X b L xs s s.heap) (hbl : b < s.heap.size) (hbA : ¬ Ab G b) (hS : va_S (Ab G) s.heap H locs) (hW : Wd G X H) {n : Nat} (hj : 4 * n + 3 < L) (hL : L < 2 ^ 31) (hl : lv_has ls 10 [(0, .ref b), (1, .ref (ad G 715)), (2, .ref (ad G 723)), (3, .ref (ad G 735)), (4, .ref (ad G 736)), (5, .int (nI (4 * n)))])
    {k f n1 f2 n2 : Nat} {post : Int32 → St → Prop} {postx : String → St → Prop} {post2 : St → Int32 → St → Prop} (hf : f ≤ 2000) (hn : n1 ≤ 94000) (hf2 : f2 ≤ 2000) (hn2 : n2 ≤ 94000) (hc : cells + k ≤ 714529) (hs : slots + 6 * k ≤ 6893124)
    (hM : MetXI l G k yX7_pour (wsG yX7_pour cX7_pour 3 (some .int)) (rmk k f n1) [.ref (ad G 715), .int (xs (4 * n + 1)), .int (xs (4 * n + 2))] X post postx) (hmem : ∀ (E : String) (Y : St), postx E Y → E ∈ ["java/lang/IndexOutOfBoundsException", "java/lang/IllegalStateException", "java/util/NoSuchElementException", "java/lang/UnsupportedOperationException"])
    (hM2 : ∀ (k9 : Int32) (Y : St), lpost ["java/lang/IndexOutOfBoundsException", "java/lang/IllegalStateException", "java/util/NoSuchElementException", "java/lang/UnsupportedOperationException"] id post postx k9 Y → MetI l G yX8_pour (wsG yX8_pour cX8_pour 3 (some .int)) (rmz f2 n2) [.ref (ad G 723), .int (xs (4 * n + 1)), .int (xs (4 * n + 2))] Y (post2 Y))
    (hstep : ∀ (k9 : Int32) (Y : St), lpost ["java/lang/IndexOutOfBoundsException", "java/lang/IllegalStateException", "java/util/NoSuchElementException", "java/lang/UnsupportedOperationException"] id post postx k9 Y → ∀ (r : Int32) (Z : St), post2 Y r Z → Z.1 15 0 = k9 ∧ (k9 = 0 → Z.1 27 0 = r))
    (kk : ∀ (k9 : Int32) (Y : St), lpost ["java/lang/IndexOutOfBoundsException", "java/lang/IllegalStateException", "java/util/NoSuchElementException", "java/lang/UnsupportedOperationException"] id post postx k9 Y → ∀ (r : Int32) (Z : St), post2 Y r Z → ∀ (H1 : Heap) (locs1 : List Loc) (ls1 : Array Slot), Wd G Z H1 → va_S (Ab G) s.heap H1 locs1 → lv_has ls1 10 [(7, .int r), (6, .int k9), (0, .ref b), (1, .ref (ad G 715)), (2, .ref (ad G 723)), (3, .ref (ad G 735)), (4, .ref (ad G 736)), (5, .int (nI (4 * n)))] → W p l e room_1 s m args below meth c H1 locs1 (cells + k) (slots + 6 * k) Q (F0 m 2989 ls1 [])) : W p l e room_1 s m args below meth c H locs cells slots Q (F0 m 674 ls []) := by
  have hx := C.1.1
  have hb := C.1.2.1
  refine lv_aload_n hx hb dL_law_674 rfl (lv_at hl 1 rfl) ?_
  refine lw_arg C hX hbl hbA hS 1 (by omega) hL (lv_at hl 0 rfl) (lv_at hl 5 rfl) (by decide) dL_law_675 dL_law_676 dL_law_678 dL_law_679 dL_law_680 ?_
  refine lw_arg C hX hbl hbA hS 2 (by omega) hL (lv_at hl 0 rfl) (lv_at hl 5 rfl) (by decide) dL_law_681 dL_law_682 dL_law_684 dL_law_685 dL_law_686 ?_
  refine lv_aload_n hx hb dL_law_687 rfl (lv_at hl 3 rfl) ?_
  refine g_cxi (vx_runSX (hh := [(0, 10, 13, 13), (0, 10, 17, 29), (0, 10, 21, 27), (0, 10, 25, 17)]) (As := [.ref (ad G 715), .int (xs (4 * n + 1)), .int (xs (4 * n + 2)), .ref (ad G 735)]) (rest := []) C.1 (hL_pour l G X (xs (4 * n + 1)) (xs (4 * n + 2)) hM hmem) (vx_cwSW 4 C.1.2.2.2.2 (gSW0 qw_1035 qw_1036 qw_70 lW_pour) rfl rfl rfl (by decide +kernel) ⟨by show f + 1 + 1 ≤ 2048; omega, by show 8 + (5 + 11) + (n1 + 22) ≤ 94400; omega⟩) (g_pre C hW hS [.ref (ad G 715), .int (xs (4 * n + 1)), .int (xs (4 * n + 2)), .ref (ad G 735)]) rfl rfl hl.1 rfl (lv_room (Nat.le_of_ble_eq_true rfl)) dL_law_688 ⟨hc, hs⟩) hS (fun _ _ _ _ _ _ _ _ h => h.elim) ?_
  intro k9 Y H1 locs1 hW1 hS1 hp
  refine lv_istore hx hb dL_law_691 hl (by decide) rfl (fun ls1 hl1 => ?_)
  replace hl1 : lv_has ls1 10 [(6, .int k9), (0, .ref b), (1, .ref (ad G 715)), (2, .ref (ad G 723)), (3, .ref (ad G 735)), (4, .ref (ad G 736)), (5, .int (nI (4 * n)))] := hl1
  refine lv_aload_n hx hb dL_law_693 rfl (lv_at hl1 3 rfl) ?_
  refine lw_arg C hX hbl hbA hS1 1 (by omega) hL (lv_at hl1 1 rfl) (lv_at hl1 6 rfl) (by decide) dL_law_694 dL_law_695 dL_law_697 dL_law_698 dL_law_699 ?_
  refine lw_arg C hX hbl hbA hS1 2 (by omega) hL (lv_at hl1 1 rfl) (lv_at hl1 6 rfl) (by decide) dL_law_700 dL_law_701 dL_law_703 dL_law_704 dL_law_705 ?_
  refine g_calli (va_runV (As := [.int (xs (4 * n + 1)), .int (xs (4 * n + 2))]) (rest := []) C.1 (hM2 k9 Y hp) (cwV 2 C.1.2.2.2.2 (gV0 qw_1658 qw_1659 qw_1660 qw_81 qw_1661) rfl rfl rfl (by decide +kernel) ⟨by show f2 + 1 ≤ 2048; omega, by show 8 + (3 + 11) + n2 ≤ 94400; omega⟩) (g_rModel C hW1 hS1 [.int (xs (4 * n + 1)), .int (xs (4 * n + 2))]) rfl rfl hl1.1 rfl (lv_room (Nat.le_of_ble_eq_true rfl)) dL_law_706 ⟨hc, hs⟩) hS1 (fun r Z H2 locs2 hW2 hS2 hp2 => ?_)
  refine lv_istore hx hb dL_law_709 hl1 (by decide) rfl (fun ls2 hl2 => ?_)
  replace hl2 : lv_has ls2 10 [(7, .int r), (6, .int k9), (0, .ref b), (1, .ref (ad G 715)), (2, .ref (ad G 723)), (3, .ref (ad G 735)), (4, .ref (ad G 736)), (5, .int (nI (4 * n)))] := hl2
  obtain ⟨hs1, hs2⟩ := hstep k9 Y hp r Z hp2
  exact lw_cmp C hW2 hS2 hl2.1 (lv_at hl2 4 rfl) (lv_at hl2 5 rfl) (lv_at hl2 1 rfl) (lv_at hl2 0 rfl) hs1 hs2 hc hs dL_law_711 dL_law_712 dL_law_715 dL_law_717 dL_law_722 dL_law_724 dL_law_727 dL_law_728 dL_law_729 dL_law_730 dL_law_732 dL_law_733 dL_law_734 dL_law_739 (by decide) (fun H3 locs3 h1 h2 => kk k9 Y hp r Z hp2 H3 locs3 ls2 h1 h2 hl2)
theorem lW_breakOut : Cond.codeWith yL_breakOut cL_breakOut 4 (some .int) [(0, 9, 12, 13), (0, 9, 15, 27), (0, 9, 18, 29)] ∈ lw_all := lw_mem 1046 (by decide +kernel) (by decide +kernel)
set_option maxHeartbeats 2000000 in
theorem lC_breakOut (C : Cx p m c cL_law 10 s args lw_all "FoundryLaw" G) (hX : va_X b L xs s s.heap) (hbl : b < s.heap.size) (hbA : ¬ Ab G b) (hS : va_S (Ab G) s.heap H locs) (hW : Wd G X H) {n : Nat} (hj : 4 * n + 3 < L) (hL : L < 2 ^ 31) (hl : lv_has ls 10 [(0, .ref b), (1, .ref (ad G 715)), (2, .ref (ad G 723)), (3, .ref (ad G 735)), (4, .ref (ad G 736)), (5, .int (nI (4 * n)))])
    {k f n1 f2 n2 : Nat} {post : Int32 → St → Prop} {postx : String → St → Prop} {post2 : St → Int32 → St → Prop} (hf : f ≤ 2000) (hn : n1 ≤ 94000) (hf2 : f2 ≤ 2000) (hn2 : n2 ≤ 94000) (hc : cells + k ≤ 714529) (hs : slots + 6 * k ≤ 6893124)
    (hM : MetXI l G k yX7_breakOut (wsG yX7_breakOut cX7_breakOut 2 (some .int)) (rmk k f n1) [.ref (ad G 715), .int (xs (4 * n + 1))] X post postx) (hmem : ∀ (E : String) (Y : St), postx E Y → E ∈ ["java/lang/IndexOutOfBoundsException", "java/util/NoSuchElementException", "java/lang/IllegalStateException"])
    (hM2 : ∀ (k9 : Int32) (Y : St), lpost ["java/lang/IndexOutOfBoundsException", "java/util/NoSuchElementException", "java/lang/IllegalStateException"] id post postx k9 Y → MetI l G yX8_breakOut (wsG yX8_breakOut cX8_breakOut 2 (some .int)) (rmz f2 n2) [.ref (ad G 723), .int (xs (4 * n + 1))] Y (post2 Y))
    (hstep : ∀ (k9 : Int32) (Y : St), lpost ["java/lang/IndexOutOfBoundsException", "java/util/NoSuchElementException", "java/lang/IllegalStateException"] id post postx k9 Y → ∀ (r : Int32) (Z : St), post2 Y r Z → Z.1 15 0 = k9 ∧ (k9 = 0 → Z.1 27 0 = r))
    (kk : ∀ (k9 : Int32) (Y : St), lpost ["java/lang/IndexOutOfBoundsException", "java/util/NoSuchElementException", "java/lang/IllegalStateException"] id post postx k9 Y → ∀ (r : Int32) (Z : St), post2 Y r Z → ∀ (H1 : Heap) (locs1 : List Loc) (ls1 : Array Slot), Wd G Z H1 → va_S (Ab G) s.heap H1 locs1 → lv_has ls1 10 [(7, .int r), (6, .int k9), (0, .ref b), (1, .ref (ad G 715)), (2, .ref (ad G 723)), (3, .ref (ad G 735)), (4, .ref (ad G 736)), (5, .int (nI (4 * n)))] → W p l e room_1 s m args below meth c H1 locs1 (cells + k) (slots + 6 * k) Q (F0 m 2989 ls1 [])) : W p l e room_1 s m args below meth c H locs cells slots Q (F0 m 742 ls []) := by
  have hx := C.1.1
  have hb := C.1.2.1
  refine lv_aload_n hx hb dL_law_742 rfl (lv_at hl 1 rfl) ?_
  refine lw_arg C hX hbl hbA hS 1 (by omega) hL (lv_at hl 0 rfl) (lv_at hl 5 rfl) (by decide) dL_law_743 dL_law_744 dL_law_746 dL_law_747 dL_law_748 ?_
  refine lv_aload_n hx hb dL_law_749 rfl (lv_at hl 3 rfl) ?_
  refine g_cxi (vx_runSX (hh := [(0, 9, 12, 13), (0, 9, 15, 27), (0, 9, 18, 29)]) (As := [.ref (ad G 715), .int (xs (4 * n + 1)), .ref (ad G 735)]) (rest := []) C.1 (hL_breakOut l G X (xs (4 * n + 1)) hM hmem) (vx_cwSW 3 C.1.2.2.2.2 (gSW0 qw_1044 qw_1045 qw_70 lW_breakOut) rfl rfl rfl (by decide +kernel) ⟨by show f + 1 + 1 ≤ 2048; omega, by show 8 + (4 + 11) + (n1 + 21) ≤ 94400; omega⟩) (g_pre C hW hS [.ref (ad G 715), .int (xs (4 * n + 1)), .ref (ad G 735)]) rfl rfl hl.1 rfl (lv_room (Nat.le_of_ble_eq_true rfl)) dL_law_750 ⟨hc, hs⟩) hS (fun _ _ _ _ _ _ _ _ h => h.elim) ?_
  intro k9 Y H1 locs1 hW1 hS1 hp
  refine lv_istore hx hb dL_law_753 hl (by decide) rfl (fun ls1 hl1 => ?_)
  replace hl1 : lv_has ls1 10 [(6, .int k9), (0, .ref b), (1, .ref (ad G 715)), (2, .ref (ad G 723)), (3, .ref (ad G 735)), (4, .ref (ad G 736)), (5, .int (nI (4 * n)))] := hl1
  refine lv_aload_n hx hb dL_law_755 rfl (lv_at hl1 3 rfl) ?_
  refine lw_arg C hX hbl hbA hS1 1 (by omega) hL (lv_at hl1 1 rfl) (lv_at hl1 6 rfl) (by decide) dL_law_756 dL_law_757 dL_law_759 dL_law_760 dL_law_761 ?_
  refine g_calli (va_runV (As := [.int (xs (4 * n + 1))]) (rest := []) C.1 (hM2 k9 Y hp) (cwV 1 C.1.2.2.2.2 (gV0 qw_1670 qw_1671 qw_1672 qw_81 qw_1673) rfl rfl rfl (by decide +kernel) ⟨by show f2 + 1 ≤ 2048; omega, by show 8 + (2 + 11) + n2 ≤ 94400; omega⟩) (g_rModel C hW1 hS1 [.int (xs (4 * n + 1))]) rfl rfl hl1.1 rfl (lv_room (Nat.le_of_ble_eq_true rfl)) dL_law_762 ⟨hc, hs⟩) hS1 (fun r Z H2 locs2 hW2 hS2 hp2 => ?_)
  refine lv_istore hx hb dL_law_765 hl1 (by decide) rfl (fun ls2 hl2 => ?_)
  replace hl2 : lv_has ls2 10 [(7, .int r), (6, .int k9), (0, .ref b), (1, .ref (ad G 715)), (2, .ref (ad G 723)), (3, .ref (ad G 735)), (4, .ref (ad G 736)), (5, .int (nI (4 * n)))] := hl2
  obtain ⟨hs1, hs2⟩ := hstep k9 Y hp r Z hp2
  exact lw_cmp C hW2 hS2 hl2.1 (lv_at hl2 4 rfl) (lv_at hl2 5 rfl) (lv_at hl2 1 rfl) (lv_at hl2 0 rfl) hs1 hs2 hc hs dL_law_767 dL_law_768 dL_law_771 dL_law_773 dL_law_778 dL_law_780 dL_law_783 dL_law_784 dL_law_785 dL_law_786 dL_law_788 dL_law_789 dL_law_790 dL_law_795 (by decide) (fun H3 locs3 h1 h2 => kk k9 Y hp r Z hp2 H3 locs3 ls2 h1 h2 hl2)
theorem lW_meltDown : Cond.codeWith yL_meltDown cL_meltDown 5 (some .int) [(0, 10, 13, 13), (0, 10, 17, 17)] ∈ lw_all := lw_mem 1055 (by decide +kernel) (by decide +kernel)
set_option maxHeartbeats 2000000 in
theorem lC_meltDown (C : Cx p m c cL_law 10 s args lw_all "FoundryLaw" G) (hX : va_X b L xs s s.heap) (hbl : b < s.heap.size) (hbA : ¬ Ab G b) (hS : va_S (Ab G) s.heap H locs) (hW : Wd G X H) {n : Nat} (hj : 4 * n + 3 < L) (hL : L < 2 ^ 31) (hl : lv_has ls 10 [(0, .ref b), (1, .ref (ad G 715)), (2, .ref (ad G 723)), (3, .ref (ad G 735)), (4, .ref (ad G 736)), (5, .int (nI (4 * n)))])
    {k f n1 f2 n2 : Nat} {post : Int32 → St → Prop} {postx : String → St → Prop} {post2 : St → Int32 → St → Prop} (hf : f ≤ 2000) (hn : n1 ≤ 94000) (hf2 : f2 ≤ 2000) (hn2 : n2 ≤ 94000) (hc : cells + k ≤ 714529) (hs : slots + 6 * k ≤ 6893124)
    (hM : MetXI l G k yX7_meltDown (wsG yX7_meltDown cX7_meltDown 3 (some .int)) (rmk k f n1) [.ref (ad G 715), .int (xs (4 * n + 1)), .int (xs (4 * n + 2))] X post postx) (hmem : ∀ (E : String) (Y : St), postx E Y → E ∈ ["java/lang/IndexOutOfBoundsException", "java/lang/UnsupportedOperationException"])
    (hM2 : ∀ (k9 : Int32) (Y : St), lpost ["java/lang/IndexOutOfBoundsException", "java/lang/UnsupportedOperationException"] id post postx k9 Y → MetI l G yX8_meltDown (wsG yX8_meltDown cX8_meltDown 3 (some .int)) (rmz f2 n2) [.ref (ad G 723), .int (xs (4 * n + 1)), .int (xs (4 * n + 2))] Y (post2 Y))
    (hstep : ∀ (k9 : Int32) (Y : St), lpost ["java/lang/IndexOutOfBoundsException", "java/lang/UnsupportedOperationException"] id post postx k9 Y → ∀ (r : Int32) (Z : St), post2 Y r Z → Z.1 15 0 = k9 ∧ (k9 = 0 → Z.1 27 0 = r))
    (kk : ∀ (k9 : Int32) (Y : St), lpost ["java/lang/IndexOutOfBoundsException", "java/lang/UnsupportedOperationException"] id post postx k9 Y → ∀ (r : Int32) (Z : St), post2 Y r Z → ∀ (H1 : Heap) (locs1 : List Loc) (ls1 : Array Slot), Wd G Z H1 → va_S (Ab G) s.heap H1 locs1 → lv_has ls1 10 [(7, .int r), (6, .int k9), (0, .ref b), (1, .ref (ad G 715)), (2, .ref (ad G 723)), (3, .ref (ad G 735)), (4, .ref (ad G 736)), (5, .int (nI (4 * n)))] → W p l e room_1 s m args below meth c H1 locs1 (cells + k) (slots + 6 * k) Q (F0 m 2989 ls1 [])) : W p l e room_1 s m args below meth c H locs cells slots Q (F0 m 798 ls []) := by
  have hx := C.1.1
  have hb := C.1.2.1
  refine lv_aload_n hx hb dL_law_798 rfl (lv_at hl 1 rfl) ?_
  refine lw_arg C hX hbl hbA hS 1 (by omega) hL (lv_at hl 0 rfl) (lv_at hl 5 rfl) (by decide) dL_law_799 dL_law_800 dL_law_802 dL_law_803 dL_law_804 ?_
  refine lw_arg C hX hbl hbA hS 2 (by omega) hL (lv_at hl 0 rfl) (lv_at hl 5 rfl) (by decide) dL_law_805 dL_law_806 dL_law_808 dL_law_809 dL_law_810 ?_
  refine lv_aload_n hx hb dL_law_811 rfl (lv_at hl 3 rfl) ?_
  refine g_cxi (vx_runSX (hh := [(0, 10, 13, 13), (0, 10, 17, 17)]) (As := [.ref (ad G 715), .int (xs (4 * n + 1)), .int (xs (4 * n + 2)), .ref (ad G 735)]) (rest := []) C.1 (hL_meltDown l G X (xs (4 * n + 1)) (xs (4 * n + 2)) hM hmem) (vx_cwSW 4 C.1.2.2.2.2 (gSW0 qw_1053 qw_1054 qw_70 lW_meltDown) rfl rfl rfl (by decide +kernel) ⟨by show f + 1 + 1 ≤ 2048; omega, by show 8 + (5 + 11) + (n1 + 22) ≤ 94400; omega⟩) (g_pre C hW hS [.ref (ad G 715), .int (xs (4 * n + 1)), .int (xs (4 * n + 2)), .ref (ad G 735)]) rfl rfl hl.1 rfl (lv_room (Nat.le_of_ble_eq_true rfl)) dL_law_812 ⟨hc, hs⟩) hS (fun _ _ _ _ _ _ _ _ h => h.elim) ?_
  intro k9 Y H1 locs1 hW1 hS1 hp
  refine lv_istore hx hb dL_law_815 hl (by decide) rfl (fun ls1 hl1 => ?_)
  replace hl1 : lv_has ls1 10 [(6, .int k9), (0, .ref b), (1, .ref (ad G 715)), (2, .ref (ad G 723)), (3, .ref (ad G 735)), (4, .ref (ad G 736)), (5, .int (nI (4 * n)))] := hl1
  refine lv_aload_n hx hb dL_law_817 rfl (lv_at hl1 3 rfl) ?_
  refine lw_arg C hX hbl hbA hS1 1 (by omega) hL (lv_at hl1 1 rfl) (lv_at hl1 6 rfl) (by decide) dL_law_818 dL_law_819 dL_law_821 dL_law_822 dL_law_823 ?_
  refine lw_arg C hX hbl hbA hS1 2 (by omega) hL (lv_at hl1 1 rfl) (lv_at hl1 6 rfl) (by decide) dL_law_824 dL_law_825 dL_law_827 dL_law_828 dL_law_829 ?_
  refine g_calli (va_runV (As := [.int (xs (4 * n + 1)), .int (xs (4 * n + 2))]) (rest := []) C.1 (hM2 k9 Y hp) (cwV 2 C.1.2.2.2.2 (gV0 qw_1681 qw_1682 qw_1683 qw_81 qw_1684) rfl rfl rfl (by decide +kernel) ⟨by show f2 + 1 ≤ 2048; omega, by show 8 + (3 + 11) + n2 ≤ 94400; omega⟩) (g_rModel C hW1 hS1 [.int (xs (4 * n + 1)), .int (xs (4 * n + 2))]) rfl rfl hl1.1 rfl (lv_room (Nat.le_of_ble_eq_true rfl)) dL_law_830 ⟨hc, hs⟩) hS1 (fun r Z H2 locs2 hW2 hS2 hp2 => ?_)
  refine lv_istore hx hb dL_law_833 hl1 (by decide) rfl (fun ls2 hl2 => ?_)
  replace hl2 : lv_has ls2 10 [(7, .int r), (6, .int k9), (0, .ref b), (1, .ref (ad G 715)), (2, .ref (ad G 723)), (3, .ref (ad G 735)), (4, .ref (ad G 736)), (5, .int (nI (4 * n)))] := hl2
  obtain ⟨hs1, hs2⟩ := hstep k9 Y hp r Z hp2
  exact lw_cmp C hW2 hS2 hl2.1 (lv_at hl2 4 rfl) (lv_at hl2 5 rfl) (lv_at hl2 1 rfl) (lv_at hl2 0 rfl) hs1 hs2 hc hs dL_law_835 dL_law_836 dL_law_839 dL_law_841 dL_law_846 dL_law_848 dL_law_851 dL_law_852 dL_law_853 dL_law_854 dL_law_856 dL_law_857 dL_law_858 dL_law_863 (by decide) (fun H3 locs3 h1 h2 => kk k9 Y hp r Z hp2 H3 locs3 ls2 h1 h2 hl2)
theorem lW_advance : Cond.codeWith yL_advance cL_advance 4 (some .int) [(0, 9, 12, 15)] ∈ lw_all := lw_mem 1064 (by decide +kernel) (by decide +kernel)
set_option maxHeartbeats 2000000 in
theorem lC_advance (C : Cx p m c cL_law 10 s args lw_all "FoundryLaw" G) (hX : va_X b L xs s s.heap) (hbl : b < s.heap.size) (hbA : ¬ Ab G b) (hS : va_S (Ab G) s.heap H locs) (hW : Wd G X H) {n : Nat} (hj : 4 * n + 3 < L) (hL : L < 2 ^ 31) (hl : lv_has ls 10 [(0, .ref b), (1, .ref (ad G 715)), (2, .ref (ad G 723)), (3, .ref (ad G 735)), (4, .ref (ad G 736)), (5, .int (nI (4 * n)))])
    {k f n1 f2 n2 : Nat} {post : Int32 → St → Prop} {postx : String → St → Prop} {post2 : St → Int32 → St → Prop} (hf : f ≤ 2000) (hn : n1 ≤ 94000) (hf2 : f2 ≤ 2000) (hn2 : n2 ≤ 94000) (hc : cells + k ≤ 714529) (hs : slots + 6 * k ≤ 6893124)
    (hM : MetXI l G k yX7_advance (wsG yX7_advance cX7_advance 2 (some .int)) (rmk k f n1) [.ref (ad G 715), .int (xs (4 * n + 1))] X post postx) (hmem : ∀ (E : String) (Y : St), postx E Y → E ∈ ["java/lang/IllegalArgumentException"])
    (hM2 : ∀ (k9 : Int32) (Y : St), lpost ["java/lang/IllegalArgumentException"] id post postx k9 Y → MetI l G yX8_advance (wsG yX8_advance cX8_advance 2 (some .int)) (rmz f2 n2) [.ref (ad G 723), .int (xs (4 * n + 1))] Y (post2 Y))
    (hstep : ∀ (k9 : Int32) (Y : St), lpost ["java/lang/IllegalArgumentException"] id post postx k9 Y → ∀ (r : Int32) (Z : St), post2 Y r Z → Z.1 15 0 = k9 ∧ (k9 = 0 → Z.1 27 0 = r))
    (kk : ∀ (k9 : Int32) (Y : St), lpost ["java/lang/IllegalArgumentException"] id post postx k9 Y → ∀ (r : Int32) (Z : St), post2 Y r Z → ∀ (H1 : Heap) (locs1 : List Loc) (ls1 : Array Slot), Wd G Z H1 → va_S (Ab G) s.heap H1 locs1 → lv_has ls1 10 [(7, .int r), (6, .int k9), (0, .ref b), (1, .ref (ad G 715)), (2, .ref (ad G 723)), (3, .ref (ad G 735)), (4, .ref (ad G 736)), (5, .int (nI (4 * n)))] → W p l e room_1 s m args below meth c H1 locs1 (cells + k) (slots + 6 * k) Q (F0 m 2989 ls1 [])) : W p l e room_1 s m args below meth c H locs cells slots Q (F0 m 866 ls []) := by
  have hx := C.1.1
  have hb := C.1.2.1
  refine lv_aload_n hx hb dL_law_866 rfl (lv_at hl 1 rfl) ?_
  refine lw_arg C hX hbl hbA hS 1 (by omega) hL (lv_at hl 0 rfl) (lv_at hl 5 rfl) (by decide) dL_law_867 dL_law_868 dL_law_870 dL_law_871 dL_law_872 ?_
  refine lv_aload_n hx hb dL_law_873 rfl (lv_at hl 3 rfl) ?_
  refine g_cxi (vx_runSX (hh := [(0, 9, 12, 15)]) (As := [.ref (ad G 715), .int (xs (4 * n + 1)), .ref (ad G 735)]) (rest := []) C.1 (hL_advance l G X (xs (4 * n + 1)) hM hmem) (vx_cwSW 3 C.1.2.2.2.2 (gSW0 qw_1062 qw_1063 qw_70 lW_advance) rfl rfl rfl (by decide +kernel) ⟨by show f + 1 + 1 ≤ 2048; omega, by show 8 + (4 + 11) + (n1 + 21) ≤ 94400; omega⟩) (g_pre C hW hS [.ref (ad G 715), .int (xs (4 * n + 1)), .ref (ad G 735)]) rfl rfl hl.1 rfl (lv_room (Nat.le_of_ble_eq_true rfl)) dL_law_874 ⟨hc, hs⟩) hS (fun _ _ _ _ _ _ _ _ h => h.elim) ?_
  intro k9 Y H1 locs1 hW1 hS1 hp
  refine lv_istore hx hb dL_law_877 hl (by decide) rfl (fun ls1 hl1 => ?_)
  replace hl1 : lv_has ls1 10 [(6, .int k9), (0, .ref b), (1, .ref (ad G 715)), (2, .ref (ad G 723)), (3, .ref (ad G 735)), (4, .ref (ad G 736)), (5, .int (nI (4 * n)))] := hl1
  refine lv_aload_n hx hb dL_law_879 rfl (lv_at hl1 3 rfl) ?_
  refine lw_arg C hX hbl hbA hS1 1 (by omega) hL (lv_at hl1 1 rfl) (lv_at hl1 6 rfl) (by decide) dL_law_880 dL_law_881 dL_law_883 dL_law_884 dL_law_885 ?_
  refine g_calli (va_runV (As := [.int (xs (4 * n + 1))]) (rest := []) C.1 (hM2 k9 Y hp) (cwV 1 C.1.2.2.2.2 (gV0 qw_1693 qw_1694 qw_1695 qw_81 qw_1696) rfl rfl rfl (by decide +kernel) ⟨by show f2 + 1 ≤ 2048; omega, by show 8 + (2 + 11) + n2 ≤ 94400; omega⟩) (g_rModel C hW1 hS1 [.int (xs (4 * n + 1))]) rfl rfl hl1.1 rfl (lv_room (Nat.le_of_ble_eq_true rfl)) dL_law_886 ⟨hc, hs⟩) hS1 (fun r Z H2 locs2 hW2 hS2 hp2 => ?_)
  refine lv_istore hx hb dL_law_889 hl1 (by decide) rfl (fun ls2 hl2 => ?_)
  replace hl2 : lv_has ls2 10 [(7, .int r), (6, .int k9), (0, .ref b), (1, .ref (ad G 715)), (2, .ref (ad G 723)), (3, .ref (ad G 735)), (4, .ref (ad G 736)), (5, .int (nI (4 * n)))] := hl2
  obtain ⟨hs1, hs2⟩ := hstep k9 Y hp r Z hp2
  exact lw_cmp C hW2 hS2 hl2.1 (lv_at hl2 4 rfl) (lv_at hl2 5 rfl) (lv_at hl2 1 rfl) (lv_at hl2 0 rfl) hs1 hs2 hc hs dL_law_891 dL_law_892 dL_law_895 dL_law_897 dL_law_902 dL_law_904 dL_law_907 dL_law_908 dL_law_909 dL_law_910 dL_law_912 dL_law_913 dL_law_914 dL_law_919 (by decide) (fun H3 locs3 h1 h2 => kk k9 Y hp r Z hp2 H3 locs3 ls2 h1 h2 hl2)
theorem lW_furnaceMass : Cond.codeWith yL_furnaceMass cL_furnaceMass 5 (some .int) [(0, 10, 13, 13), (0, 10, 17, 15)] ∈ lw_all := lw_mem 1073 (by decide +kernel) (by decide +kernel)
set_option maxHeartbeats 2000000 in
theorem lC_furnaceMass (C : Cx p m c cL_law 10 s args lw_all "FoundryLaw" G) (hX : va_X b L xs s s.heap) (hbl : b < s.heap.size) (hbA : ¬ Ab G b) (hS : va_S (Ab G) s.heap H locs) (hW : Wd G X H) {n : Nat} (hj : 4 * n + 3 < L) (hL : L < 2 ^ 31) (hl : lv_has ls 10 [(0, .ref b), (1, .ref (ad G 715)), (2, .ref (ad G 723)), (3, .ref (ad G 735)), (4, .ref (ad G 736)), (5, .int (nI (4 * n)))])
    {k f n1 f2 n2 : Nat} {post : Int32 → St → Prop} {postx : String → St → Prop} {post2 : St → Int32 → St → Prop} (hf : f ≤ 2000) (hn : n1 ≤ 94000) (hf2 : f2 ≤ 2000) (hn2 : n2 ≤ 94000) (hc : cells + k ≤ 714529) (hs : slots + 6 * k ≤ 6893124)
    (hM : MetXI l G k yX7_furnaceMass (wsG yX7_furnaceMass cX7_furnaceMass 3 (some .int)) (rmk k f n1) [.ref (ad G 715), .int (xs (4 * n + 1)), .int (((xs (4 * n + 2)).toUInt32 % 65536).toInt32)] X post postx) (hmem : ∀ (E : String) (Y : St), postx E Y → E ∈ ["java/lang/IndexOutOfBoundsException", "java/lang/IllegalArgumentException"])
    (hM2 : ∀ (k9 : Int32) (Y : St), lpost ["java/lang/IndexOutOfBoundsException", "java/lang/IllegalArgumentException"] id post postx k9 Y → MetI l G yX8_furnaceMass (wsG yX8_furnaceMass cX8_furnaceMass 3 (some .int)) (rmz f2 n2) [.ref (ad G 723), .int (xs (4 * n + 1)), .int (((xs (4 * n + 2)).toUInt32 % 65536).toInt32)] Y (post2 Y))
    (hstep : ∀ (k9 : Int32) (Y : St), lpost ["java/lang/IndexOutOfBoundsException", "java/lang/IllegalArgumentException"] id post postx k9 Y → ∀ (r : Int32) (Z : St), post2 Y r Z → Z.1 15 0 = k9 ∧ (k9 = 0 → Z.1 27 0 = r))
    (kk : ∀ (k9 : Int32) (Y : St), lpost ["java/lang/IndexOutOfBoundsException", "java/lang/IllegalArgumentException"] id post postx k9 Y → ∀ (r : Int32) (Z : St), post2 Y r Z → ∀ (H1 : Heap) (locs1 : List Loc) (ls1 : Array Slot), Wd G Z H1 → va_S (Ab G) s.heap H1 locs1 → lv_has ls1 10 [(7, .int r), (6, .int k9), (0, .ref b), (1, .ref (ad G 715)), (2, .ref (ad G 723)), (3, .ref (ad G 735)), (4, .ref (ad G 736)), (5, .int (nI (4 * n)))] → W p l e room_1 s m args below meth c H1 locs1 (cells + k) (slots + 6 * k) Q (F0 m 2989 ls1 [])) : W p l e room_1 s m args below meth c H locs cells slots Q (F0 m 922 ls []) := by
  have hx := C.1.1
  have hb := C.1.2.1
  refine lv_aload_n hx hb dL_law_922 rfl (lv_at hl 1 rfl) ?_
  refine lw_arg C hX hbl hbA hS 1 (by omega) hL (lv_at hl 0 rfl) (lv_at hl 5 rfl) (by decide) dL_law_923 dL_law_924 dL_law_926 dL_law_927 dL_law_928 ?_
  refine lw_argc C hX hbl hbA hS 2 (by omega) hL (lv_at hl 0 rfl) (lv_at hl 5 rfl) (by decide) dL_law_929 dL_law_930 dL_law_932 dL_law_933 dL_law_934 dL_law_935 ?_
  refine lv_aload_n hx hb dL_law_936 rfl (lv_at hl 3 rfl) ?_
  refine g_cxi (vx_runSX (hh := [(0, 10, 13, 13), (0, 10, 17, 15)]) (As := [.ref (ad G 715), .int (xs (4 * n + 1)), .int (((xs (4 * n + 2)).toUInt32 % 65536).toInt32), .ref (ad G 735)]) (rest := []) C.1 (hL_furnaceMass l G X (xs (4 * n + 1)) (((xs (4 * n + 2)).toUInt32 % 65536).toInt32) hM hmem) (vx_cwSW 4 C.1.2.2.2.2 (gSW0 qw_1071 qw_1072 qw_70 lW_furnaceMass) rfl rfl rfl (by decide +kernel) ⟨by show f + 1 + 1 ≤ 2048; omega, by show 8 + (5 + 11) + (n1 + 22) ≤ 94400; omega⟩) (g_pre C hW hS [.ref (ad G 715), .int (xs (4 * n + 1)), .int (((xs (4 * n + 2)).toUInt32 % 65536).toInt32), .ref (ad G 735)]) rfl rfl hl.1 rfl (lv_room (Nat.le_of_ble_eq_true rfl)) dL_law_937 ⟨hc, hs⟩) hS (fun _ _ _ _ _ _ _ _ h => h.elim) ?_
  intro k9 Y H1 locs1 hW1 hS1 hp
  refine lv_istore hx hb dL_law_940 hl (by decide) rfl (fun ls1 hl1 => ?_)
  replace hl1 : lv_has ls1 10 [(6, .int k9), (0, .ref b), (1, .ref (ad G 715)), (2, .ref (ad G 723)), (3, .ref (ad G 735)), (4, .ref (ad G 736)), (5, .int (nI (4 * n)))] := hl1
  refine lv_aload_n hx hb dL_law_942 rfl (lv_at hl1 3 rfl) ?_
  refine lw_arg C hX hbl hbA hS1 1 (by omega) hL (lv_at hl1 1 rfl) (lv_at hl1 6 rfl) (by decide) dL_law_943 dL_law_944 dL_law_946 dL_law_947 dL_law_948 ?_
  refine lw_argc C hX hbl hbA hS1 2 (by omega) hL (lv_at hl1 1 rfl) (lv_at hl1 6 rfl) (by decide) dL_law_949 dL_law_950 dL_law_952 dL_law_953 dL_law_954 dL_law_955 ?_
  refine g_calli (va_runV (As := [.int (xs (4 * n + 1)), .int (((xs (4 * n + 2)).toUInt32 % 65536).toInt32)]) (rest := []) C.1 (hM2 k9 Y hp) (cwV 2 C.1.2.2.2.2 (gV0 qw_1704 qw_1705 qw_1706 qw_81 qw_1707) rfl rfl rfl (by decide +kernel) ⟨by show f2 + 1 ≤ 2048; omega, by show 8 + (3 + 11) + n2 ≤ 94400; omega⟩) (g_rModel C hW1 hS1 [.int (xs (4 * n + 1)), .int (((xs (4 * n + 2)).toUInt32 % 65536).toInt32)]) rfl rfl hl1.1 rfl (lv_room (Nat.le_of_ble_eq_true rfl)) dL_law_956 ⟨hc, hs⟩) hS1 (fun r Z H2 locs2 hW2 hS2 hp2 => ?_)
  refine lv_istore hx hb dL_law_959 hl1 (by decide) rfl (fun ls2 hl2 => ?_)
  replace hl2 : lv_has ls2 10 [(7, .int r), (6, .int k9), (0, .ref b), (1, .ref (ad G 715)), (2, .ref (ad G 723)), (3, .ref (ad G 735)), (4, .ref (ad G 736)), (5, .int (nI (4 * n)))] := hl2
  obtain ⟨hs1, hs2⟩ := hstep k9 Y hp r Z hp2
  exact lw_cmp C hW2 hS2 hl2.1 (lv_at hl2 4 rfl) (lv_at hl2 5 rfl) (lv_at hl2 1 rfl) (lv_at hl2 0 rfl) hs1 hs2 hc hs dL_law_961 dL_law_962 dL_law_965 dL_law_967 dL_law_972 dL_law_974 dL_law_977 dL_law_978 dL_law_979 dL_law_980 dL_law_982 dL_law_983 dL_law_984 dL_law_989 (by decide) (fun H3 locs3 h1 h2 => kk k9 Y hp r Z hp2 H3 locs3 ls2 h1 h2 hl2)
theorem lW_furnaceTotal : Cond.codeWith yL_furnaceTotal cL_furnaceTotal 4 (some .int) [(0, 9, 12, 13)] ∈ lw_all := lw_mem 1088 (by decide +kernel) (by decide +kernel)
set_option maxHeartbeats 2000000 in
theorem lC_furnaceTotal (C : Cx p m c cL_law 10 s args lw_all "FoundryLaw" G) (hX : va_X b L xs s s.heap) (hbl : b < s.heap.size) (hbA : ¬ Ab G b) (hS : va_S (Ab G) s.heap H locs) (hW : Wd G X H) {n : Nat} (hj : 4 * n + 3 < L) (hL : L < 2 ^ 31) (hl : lv_has ls 10 [(0, .ref b), (1, .ref (ad G 715)), (2, .ref (ad G 723)), (3, .ref (ad G 735)), (4, .ref (ad G 736)), (5, .int (nI (4 * n)))])
    {k f n1 f2 n2 : Nat} {post : Int32 → St → Prop} {postx : String → St → Prop} {post2 : St → Int32 → St → Prop} (hf : f ≤ 2000) (hn : n1 ≤ 94000) (hf2 : f2 ≤ 2000) (hn2 : n2 ≤ 94000) (hc : cells + k ≤ 714529) (hs : slots + 6 * k ≤ 6893124)
    (hM : MetXI l G k yX7_furnaceTotal (wsG yX7_furnaceTotal cX7_furnaceTotal 2 (some .int)) (rmk k f n1) [.ref (ad G 715), .int (xs (4 * n + 1))] X post postx) (hmem : ∀ (E : String) (Y : St), postx E Y → E ∈ ["java/lang/IndexOutOfBoundsException"])
    (hM2 : ∀ (k9 : Int32) (Y : St), lpost ["java/lang/IndexOutOfBoundsException"] id post postx k9 Y → MetI l G yX8_furnaceTotal (wsG yX8_furnaceTotal cX8_furnaceTotal 2 (some .int)) (rmz f2 n2) [.ref (ad G 723), .int (xs (4 * n + 1))] Y (post2 Y))
    (hstep : ∀ (k9 : Int32) (Y : St), lpost ["java/lang/IndexOutOfBoundsException"] id post postx k9 Y → ∀ (r : Int32) (Z : St), post2 Y r Z → Z.1 15 0 = k9 ∧ (k9 = 0 → Z.1 27 0 = r))
    (kk : ∀ (k9 : Int32) (Y : St), lpost ["java/lang/IndexOutOfBoundsException"] id post postx k9 Y → ∀ (r : Int32) (Z : St), post2 Y r Z → ∀ (H1 : Heap) (locs1 : List Loc) (ls1 : Array Slot), Wd G Z H1 → va_S (Ab G) s.heap H1 locs1 → lv_has ls1 10 [(7, .int r), (6, .int k9), (0, .ref b), (1, .ref (ad G 715)), (2, .ref (ad G 723)), (3, .ref (ad G 735)), (4, .ref (ad G 736)), (5, .int (nI (4 * n)))] → W p l e room_1 s m args below meth c H1 locs1 (cells + k) (slots + 6 * k) Q (F0 m 2989 ls1 [])) : W p l e room_1 s m args below meth c H locs cells slots Q (F0 m 992 ls []) := by
  have hx := C.1.1
  have hb := C.1.2.1
  refine lv_aload_n hx hb dL_law_992 rfl (lv_at hl 1 rfl) ?_
  refine lw_arg C hX hbl hbA hS 1 (by omega) hL (lv_at hl 0 rfl) (lv_at hl 5 rfl) (by decide) dL_law_993 dL_law_994 dL_law_996 dL_law_997 dL_law_998 ?_
  refine lv_aload_n hx hb dL_law_999 rfl (lv_at hl 3 rfl) ?_
  refine g_cxi (vx_runSX (hh := [(0, 9, 12, 13)]) (As := [.ref (ad G 715), .int (xs (4 * n + 1)), .ref (ad G 735)]) (rest := []) C.1 (hL_furnaceTotal l G X (xs (4 * n + 1)) hM hmem) (vx_cwSW 3 C.1.2.2.2.2 (gSW0 qw_1086 qw_1087 qw_70 lW_furnaceTotal) rfl rfl rfl (by decide +kernel) ⟨by show f + 1 + 1 ≤ 2048; omega, by show 8 + (4 + 11) + (n1 + 21) ≤ 94400; omega⟩) (g_pre C hW hS [.ref (ad G 715), .int (xs (4 * n + 1)), .ref (ad G 735)]) rfl rfl hl.1 rfl (lv_room (Nat.le_of_ble_eq_true rfl)) dL_law_1000 ⟨hc, hs⟩) hS (fun _ _ _ _ _ _ _ _ h => h.elim) ?_
  intro k9 Y H1 locs1 hW1 hS1 hp
  refine lv_istore hx hb dL_law_1003 hl (by decide) rfl (fun ls1 hl1 => ?_)
  replace hl1 : lv_has ls1 10 [(6, .int k9), (0, .ref b), (1, .ref (ad G 715)), (2, .ref (ad G 723)), (3, .ref (ad G 735)), (4, .ref (ad G 736)), (5, .int (nI (4 * n)))] := hl1
  refine lv_aload_n hx hb dL_law_1005 rfl (lv_at hl1 3 rfl) ?_
  refine lw_arg C hX hbl hbA hS1 1 (by omega) hL (lv_at hl1 1 rfl) (lv_at hl1 6 rfl) (by decide) dL_law_1006 dL_law_1007 dL_law_1009 dL_law_1010 dL_law_1011 ?_
  refine g_calli (va_runV (As := [.int (xs (4 * n + 1))]) (rest := []) C.1 (hM2 k9 Y hp) (cwV 1 C.1.2.2.2.2 (gV0 qw_1712 qw_1713 qw_1714 qw_81 qw_1715) rfl rfl rfl (by decide +kernel) ⟨by show f2 + 1 ≤ 2048; omega, by show 8 + (2 + 11) + n2 ≤ 94400; omega⟩) (g_rModel C hW1 hS1 [.int (xs (4 * n + 1))]) rfl rfl hl1.1 rfl (lv_room (Nat.le_of_ble_eq_true rfl)) dL_law_1012 ⟨hc, hs⟩) hS1 (fun r Z H2 locs2 hW2 hS2 hp2 => ?_)
  refine lv_istore hx hb dL_law_1015 hl1 (by decide) rfl (fun ls2 hl2 => ?_)
  replace hl2 : lv_has ls2 10 [(7, .int r), (6, .int k9), (0, .ref b), (1, .ref (ad G 715)), (2, .ref (ad G 723)), (3, .ref (ad G 735)), (4, .ref (ad G 736)), (5, .int (nI (4 * n)))] := hl2
  obtain ⟨hs1, hs2⟩ := hstep k9 Y hp r Z hp2
  exact lw_cmp C hW2 hS2 hl2.1 (lv_at hl2 4 rfl) (lv_at hl2 5 rfl) (lv_at hl2 1 rfl) (lv_at hl2 0 rfl) hs1 hs2 hc hs dL_law_1017 dL_law_1018 dL_law_1021 dL_law_1023 dL_law_1028 dL_law_1030 dL_law_1033 dL_law_1034 dL_law_1035 dL_law_1036 dL_law_1038 dL_law_1039 dL_law_1040 dL_law_1045 (by decide) (fun H3 locs3 h1 h2 => kk k9 Y hp r Z hp2 H3 locs3 ls2 h1 h2 hl2)
theorem lW_furnaceTemperature : Cond.codeWith yL_furnaceTemperature cL_furnaceTemperature 4 (some .int) [(0, 9, 12, 13)] ∈ lw_all := lw_mem 1096 (by decide +kernel) (by decide +kernel)
set_option maxHeartbeats 2000000 in
theorem lC_furnaceTemperature (C : Cx p m c cL_law 10 s args lw_all "FoundryLaw" G) (hX : va_X b L xs s s.heap) (hbl : b < s.heap.size) (hbA : ¬ Ab G b) (hS : va_S (Ab G) s.heap H locs) (hW : Wd G X H) {n : Nat} (hj : 4 * n + 3 < L) (hL : L < 2 ^ 31) (hl : lv_has ls 10 [(0, .ref b), (1, .ref (ad G 715)), (2, .ref (ad G 723)), (3, .ref (ad G 735)), (4, .ref (ad G 736)), (5, .int (nI (4 * n)))])
    {k f n1 f2 n2 : Nat} {post : Int32 → St → Prop} {postx : String → St → Prop} {post2 : St → Int32 → St → Prop} (hf : f ≤ 2000) (hn : n1 ≤ 94000) (hf2 : f2 ≤ 2000) (hn2 : n2 ≤ 94000) (hc : cells + k ≤ 714529) (hs : slots + 6 * k ≤ 6893124)
    (hM : MetXI l G k yX7_furnaceTemperature (wsG yX7_furnaceTemperature cX7_furnaceTemperature 2 (some .int)) (rmk k f n1) [.ref (ad G 715), .int (xs (4 * n + 1))] X post postx) (hmem : ∀ (E : String) (Y : St), postx E Y → E ∈ ["java/lang/IndexOutOfBoundsException"])
    (hM2 : ∀ (k9 : Int32) (Y : St), lpost ["java/lang/IndexOutOfBoundsException"] id post postx k9 Y → MetI l G yX8_furnaceTemperature (wsG yX8_furnaceTemperature cX8_furnaceTemperature 2 (some .int)) (rmz f2 n2) [.ref (ad G 723), .int (xs (4 * n + 1))] Y (post2 Y))
    (hstep : ∀ (k9 : Int32) (Y : St), lpost ["java/lang/IndexOutOfBoundsException"] id post postx k9 Y → ∀ (r : Int32) (Z : St), post2 Y r Z → Z.1 15 0 = k9 ∧ (k9 = 0 → Z.1 27 0 = r))
    (kk : ∀ (k9 : Int32) (Y : St), lpost ["java/lang/IndexOutOfBoundsException"] id post postx k9 Y → ∀ (r : Int32) (Z : St), post2 Y r Z → ∀ (H1 : Heap) (locs1 : List Loc) (ls1 : Array Slot), Wd G Z H1 → va_S (Ab G) s.heap H1 locs1 → lv_has ls1 10 [(7, .int r), (6, .int k9), (0, .ref b), (1, .ref (ad G 715)), (2, .ref (ad G 723)), (3, .ref (ad G 735)), (4, .ref (ad G 736)), (5, .int (nI (4 * n)))] → W p l e room_1 s m args below meth c H1 locs1 (cells + k) (slots + 6 * k) Q (F0 m 2989 ls1 [])) : W p l e room_1 s m args below meth c H locs cells slots Q (F0 m 1048 ls []) := by
  have hx := C.1.1
  have hb := C.1.2.1
  refine lv_aload_n hx hb dL_law_1048 rfl (lv_at hl 1 rfl) ?_
  refine lw_arg C hX hbl hbA hS 1 (by omega) hL (lv_at hl 0 rfl) (lv_at hl 5 rfl) (by decide) dL_law_1049 dL_law_1050 dL_law_1052 dL_law_1053 dL_law_1054 ?_
  refine lv_aload_n hx hb dL_law_1055 rfl (lv_at hl 3 rfl) ?_
  refine g_cxi (vx_runSX (hh := [(0, 9, 12, 13)]) (As := [.ref (ad G 715), .int (xs (4 * n + 1)), .ref (ad G 735)]) (rest := []) C.1 (hL_furnaceTemperature l G X (xs (4 * n + 1)) hM hmem) (vx_cwSW 3 C.1.2.2.2.2 (gSW0 qw_1094 qw_1095 qw_70 lW_furnaceTemperature) rfl rfl rfl (by decide +kernel) ⟨by show f + 1 + 1 ≤ 2048; omega, by show 8 + (4 + 11) + (n1 + 21) ≤ 94400; omega⟩) (g_pre C hW hS [.ref (ad G 715), .int (xs (4 * n + 1)), .ref (ad G 735)]) rfl rfl hl.1 rfl (lv_room (Nat.le_of_ble_eq_true rfl)) dL_law_1056 ⟨hc, hs⟩) hS (fun _ _ _ _ _ _ _ _ h => h.elim) ?_
  intro k9 Y H1 locs1 hW1 hS1 hp
  refine lv_istore hx hb dL_law_1059 hl (by decide) rfl (fun ls1 hl1 => ?_)
  replace hl1 : lv_has ls1 10 [(6, .int k9), (0, .ref b), (1, .ref (ad G 715)), (2, .ref (ad G 723)), (3, .ref (ad G 735)), (4, .ref (ad G 736)), (5, .int (nI (4 * n)))] := hl1
  refine lv_aload_n hx hb dL_law_1061 rfl (lv_at hl1 3 rfl) ?_
  refine lw_arg C hX hbl hbA hS1 1 (by omega) hL (lv_at hl1 1 rfl) (lv_at hl1 6 rfl) (by decide) dL_law_1062 dL_law_1063 dL_law_1065 dL_law_1066 dL_law_1067 ?_
  refine g_calli (va_runV (As := [.int (xs (4 * n + 1))]) (rest := []) C.1 (hM2 k9 Y hp) (cwV 1 C.1.2.2.2.2 (gV0 qw_1720 qw_1721 qw_1722 qw_81 qw_1723) rfl rfl rfl (by decide +kernel) ⟨by show f2 + 1 ≤ 2048; omega, by show 8 + (2 + 11) + n2 ≤ 94400; omega⟩) (g_rModel C hW1 hS1 [.int (xs (4 * n + 1))]) rfl rfl hl1.1 rfl (lv_room (Nat.le_of_ble_eq_true rfl)) dL_law_1068 ⟨hc, hs⟩) hS1 (fun r Z H2 locs2 hW2 hS2 hp2 => ?_)
  refine lv_istore hx hb dL_law_1071 hl1 (by decide) rfl (fun ls2 hl2 => ?_)
  replace hl2 : lv_has ls2 10 [(7, .int r), (6, .int k9), (0, .ref b), (1, .ref (ad G 715)), (2, .ref (ad G 723)), (3, .ref (ad G 735)), (4, .ref (ad G 736)), (5, .int (nI (4 * n)))] := hl2
  obtain ⟨hs1, hs2⟩ := hstep k9 Y hp r Z hp2
  exact lw_cmp C hW2 hS2 hl2.1 (lv_at hl2 4 rfl) (lv_at hl2 5 rfl) (lv_at hl2 1 rfl) (lv_at hl2 0 rfl) hs1 hs2 hc hs dL_law_1073 dL_law_1074 dL_law_1077 dL_law_1079 dL_law_1084 dL_law_1086 dL_law_1089 dL_law_1090 dL_law_1091 dL_law_1092 dL_law_1094 dL_law_1095 dL_law_1096 dL_law_1101 (by decide) (fun H3 locs3 h1 h2 => kk k9 Y hp r Z hp2 H3 locs3 ls2 h1 h2 hl2)
theorem lW_fire : Cond.codeWith yL_fire cL_fire 4 (some .int) [(0, 9, 12, 13)] ∈ lw_all := lw_mem 1103 (by decide +kernel) (by decide +kernel)
set_option maxHeartbeats 2000000 in
theorem lC_fire (C : Cx p m c cL_law 10 s args lw_all "FoundryLaw" G) (hX : va_X b L xs s s.heap) (hbl : b < s.heap.size) (hbA : ¬ Ab G b) (hS : va_S (Ab G) s.heap H locs) (hW : Wd G X H) {n : Nat} (hj : 4 * n + 3 < L) (hL : L < 2 ^ 31) (hl : lv_has ls 10 [(0, .ref b), (1, .ref (ad G 715)), (2, .ref (ad G 723)), (3, .ref (ad G 735)), (4, .ref (ad G 736)), (5, .int (nI (4 * n)))])
    {k f n1 f2 n2 : Nat} {post : Int32 → St → Prop} {postx : String → St → Prop} {post2 : St → Int32 → St → Prop} (hf : f ≤ 2000) (hn : n1 ≤ 94000) (hf2 : f2 ≤ 2000) (hn2 : n2 ≤ 94000) (hc : cells + k ≤ 714529) (hs : slots + 6 * k ≤ 6893124)
    (hM : MetXI l G k yX7_fire (wsG yX7_fire cX7_fire 2 (some .int)) (rmk k f n1) [.ref (ad G 715), .int (xs (4 * n + 1))] X post postx) (hmem : ∀ (E : String) (Y : St), postx E Y → E ∈ ["java/lang/IndexOutOfBoundsException"])
    (hM2 : ∀ (k9 : Int32) (Y : St), lpost ["java/lang/IndexOutOfBoundsException"] id post postx k9 Y → MetI l G yX8_fire (wsG yX8_fire cX8_fire 2 (some .int)) (rmz f2 n2) [.ref (ad G 723), .int (xs (4 * n + 1))] Y (post2 Y))
    (hstep : ∀ (k9 : Int32) (Y : St), lpost ["java/lang/IndexOutOfBoundsException"] id post postx k9 Y → ∀ (r : Int32) (Z : St), post2 Y r Z → Z.1 15 0 = k9 ∧ (k9 = 0 → Z.1 27 0 = r))
    (kk : ∀ (k9 : Int32) (Y : St), lpost ["java/lang/IndexOutOfBoundsException"] id post postx k9 Y → ∀ (r : Int32) (Z : St), post2 Y r Z → ∀ (H1 : Heap) (locs1 : List Loc) (ls1 : Array Slot), Wd G Z H1 → va_S (Ab G) s.heap H1 locs1 → lv_has ls1 10 [(7, .int r), (6, .int k9), (0, .ref b), (1, .ref (ad G 715)), (2, .ref (ad G 723)), (3, .ref (ad G 735)), (4, .ref (ad G 736)), (5, .int (nI (4 * n)))] → W p l e room_1 s m args below meth c H1 locs1 (cells + k) (slots + 6 * k) Q (F0 m 2989 ls1 [])) : W p l e room_1 s m args below meth c H locs cells slots Q (F0 m 1104 ls []) := by
  have hx := C.1.1
  have hb := C.1.2.1
  refine lv_aload_n hx hb dL_law_1104 rfl (lv_at hl 1 rfl) ?_
  refine lw_arg C hX hbl hbA hS 1 (by omega) hL (lv_at hl 0 rfl) (lv_at hl 5 rfl) (by decide) dL_law_1105 dL_law_1106 dL_law_1108 dL_law_1109 dL_law_1110 ?_
  refine lv_aload_n hx hb dL_law_1111 rfl (lv_at hl 3 rfl) ?_
  refine g_cxi (vx_runSX (hh := [(0, 9, 12, 13)]) (As := [.ref (ad G 715), .int (xs (4 * n + 1)), .ref (ad G 735)]) (rest := []) C.1 (hL_fire l G X (xs (4 * n + 1)) hM hmem) (vx_cwSW 3 C.1.2.2.2.2 (gSW0 qw_1101 qw_1102 qw_70 lW_fire) rfl rfl rfl (by decide +kernel) ⟨by show f + 1 + 1 ≤ 2048; omega, by show 8 + (4 + 11) + (n1 + 21) ≤ 94400; omega⟩) (g_pre C hW hS [.ref (ad G 715), .int (xs (4 * n + 1)), .ref (ad G 735)]) rfl rfl hl.1 rfl (lv_room (Nat.le_of_ble_eq_true rfl)) dL_law_1112 ⟨hc, hs⟩) hS (fun _ _ _ _ _ _ _ _ h => h.elim) ?_
  intro k9 Y H1 locs1 hW1 hS1 hp
  refine lv_istore hx hb dL_law_1115 hl (by decide) rfl (fun ls1 hl1 => ?_)
  replace hl1 : lv_has ls1 10 [(6, .int k9), (0, .ref b), (1, .ref (ad G 715)), (2, .ref (ad G 723)), (3, .ref (ad G 735)), (4, .ref (ad G 736)), (5, .int (nI (4 * n)))] := hl1
  refine lv_aload_n hx hb dL_law_1117 rfl (lv_at hl1 3 rfl) ?_
  refine lw_arg C hX hbl hbA hS1 1 (by omega) hL (lv_at hl1 1 rfl) (lv_at hl1 6 rfl) (by decide) dL_law_1118 dL_law_1119 dL_law_1121 dL_law_1122 dL_law_1123 ?_
  refine g_calli (va_runV (As := [.int (xs (4 * n + 1))]) (rest := []) C.1 (hM2 k9 Y hp) (cwV 1 C.1.2.2.2.2 (gV0 qw_1728 qw_1729 qw_1730 qw_81 qw_1731) rfl rfl rfl (by decide +kernel) ⟨by show f2 + 1 ≤ 2048; omega, by show 8 + (2 + 11) + n2 ≤ 94400; omega⟩) (g_rModel C hW1 hS1 [.int (xs (4 * n + 1))]) rfl rfl hl1.1 rfl (lv_room (Nat.le_of_ble_eq_true rfl)) dL_law_1124 ⟨hc, hs⟩) hS1 (fun r Z H2 locs2 hW2 hS2 hp2 => ?_)
  refine lv_istore hx hb dL_law_1127 hl1 (by decide) rfl (fun ls2 hl2 => ?_)
  replace hl2 : lv_has ls2 10 [(7, .int r), (6, .int k9), (0, .ref b), (1, .ref (ad G 715)), (2, .ref (ad G 723)), (3, .ref (ad G 735)), (4, .ref (ad G 736)), (5, .int (nI (4 * n)))] := hl2
  obtain ⟨hs1, hs2⟩ := hstep k9 Y hp r Z hp2
  exact lw_cmp C hW2 hS2 hl2.1 (lv_at hl2 4 rfl) (lv_at hl2 5 rfl) (lv_at hl2 1 rfl) (lv_at hl2 0 rfl) hs1 hs2 hc hs dL_law_1129 dL_law_1130 dL_law_1133 dL_law_1135 dL_law_1140 dL_law_1142 dL_law_1145 dL_law_1146 dL_law_1147 dL_law_1148 dL_law_1150 dL_law_1151 dL_law_1152 dL_law_1157 (by decide) (fun H3 locs3 h1 h2 => kk k9 Y hp r Z hp2 H3 locs3 ls2 h1 h2 hl2)
theorem lW_meltingPoint : Cond.codeWith yL_meltingPoint cL_meltingPoint 4 (some .int) [(0, 9, 12, 13), (0, 9, 15, 27)] ∈ lw_all := lw_mem 1110 (by decide +kernel) (by decide +kernel)
set_option maxHeartbeats 2000000 in
theorem lC_meltingPoint (C : Cx p m c cL_law 10 s args lw_all "FoundryLaw" G) (hX : va_X b L xs s s.heap) (hbl : b < s.heap.size) (hbA : ¬ Ab G b) (hS : va_S (Ab G) s.heap H locs) (hW : Wd G X H) {n : Nat} (hj : 4 * n + 3 < L) (hL : L < 2 ^ 31) (hl : lv_has ls 10 [(0, .ref b), (1, .ref (ad G 715)), (2, .ref (ad G 723)), (3, .ref (ad G 735)), (4, .ref (ad G 736)), (5, .int (nI (4 * n)))])
    {k f n1 f2 n2 : Nat} {post : Int32 → St → Prop} {postx : String → St → Prop} {post2 : St → Int32 → St → Prop} (hf : f ≤ 2000) (hn : n1 ≤ 94000) (hf2 : f2 ≤ 2000) (hn2 : n2 ≤ 94000) (hc : cells + k ≤ 714529) (hs : slots + 6 * k ≤ 6893124)
    (hM : MetXI l G k yX7_meltingPoint (wsG yX7_meltingPoint cX7_meltingPoint 2 (some .int)) (rmk k f n1) [.ref (ad G 715), .int (xs (4 * n + 1))] X post postx) (hmem : ∀ (E : String) (Y : St), postx E Y → E ∈ ["java/lang/IndexOutOfBoundsException", "java/util/NoSuchElementException"])
    (hM2 : ∀ (k9 : Int32) (Y : St), lpost ["java/lang/IndexOutOfBoundsException", "java/util/NoSuchElementException"] id post postx k9 Y → MetI l G yX8_meltingPoint (wsG yX8_meltingPoint cX8_meltingPoint 2 (some .int)) (rmz f2 n2) [.ref (ad G 723), .int (xs (4 * n + 1))] Y (post2 Y))
    (hstep : ∀ (k9 : Int32) (Y : St), lpost ["java/lang/IndexOutOfBoundsException", "java/util/NoSuchElementException"] id post postx k9 Y → ∀ (r : Int32) (Z : St), post2 Y r Z → Z.1 15 0 = k9 ∧ (k9 = 0 → Z.1 27 0 = r))
    (kk : ∀ (k9 : Int32) (Y : St), lpost ["java/lang/IndexOutOfBoundsException", "java/util/NoSuchElementException"] id post postx k9 Y → ∀ (r : Int32) (Z : St), post2 Y r Z → ∀ (H1 : Heap) (locs1 : List Loc) (ls1 : Array Slot), Wd G Z H1 → va_S (Ab G) s.heap H1 locs1 → lv_has ls1 10 [(7, .int r), (6, .int k9), (0, .ref b), (1, .ref (ad G 715)), (2, .ref (ad G 723)), (3, .ref (ad G 735)), (4, .ref (ad G 736)), (5, .int (nI (4 * n)))] → W p l e room_1 s m args below meth c H1 locs1 (cells + k) (slots + 6 * k) Q (F0 m 2989 ls1 [])) : W p l e room_1 s m args below meth c H locs cells slots Q (F0 m 1160 ls []) := by
  have hx := C.1.1
  have hb := C.1.2.1
  refine lv_aload_n hx hb dL_law_1160 rfl (lv_at hl 1 rfl) ?_
  refine lw_arg C hX hbl hbA hS 1 (by omega) hL (lv_at hl 0 rfl) (lv_at hl 5 rfl) (by decide) dL_law_1161 dL_law_1162 dL_law_1164 dL_law_1165 dL_law_1166 ?_
  refine lv_aload_n hx hb dL_law_1167 rfl (lv_at hl 3 rfl) ?_
  refine g_cxi (vx_runSX (hh := [(0, 9, 12, 13), (0, 9, 15, 27)]) (As := [.ref (ad G 715), .int (xs (4 * n + 1)), .ref (ad G 735)]) (rest := []) C.1 (hL_meltingPoint l G X (xs (4 * n + 1)) hM hmem) (vx_cwSW 3 C.1.2.2.2.2 (gSW0 qw_1108 qw_1109 qw_70 lW_meltingPoint) rfl rfl rfl (by decide +kernel) ⟨by show f + 1 + 1 ≤ 2048; omega, by show 8 + (4 + 11) + (n1 + 21) ≤ 94400; omega⟩) (g_pre C hW hS [.ref (ad G 715), .int (xs (4 * n + 1)), .ref (ad G 735)]) rfl rfl hl.1 rfl (lv_room (Nat.le_of_ble_eq_true rfl)) dL_law_1168 ⟨hc, hs⟩) hS (fun _ _ _ _ _ _ _ _ h => h.elim) ?_
  intro k9 Y H1 locs1 hW1 hS1 hp
  refine lv_istore hx hb dL_law_1171 hl (by decide) rfl (fun ls1 hl1 => ?_)
  replace hl1 : lv_has ls1 10 [(6, .int k9), (0, .ref b), (1, .ref (ad G 715)), (2, .ref (ad G 723)), (3, .ref (ad G 735)), (4, .ref (ad G 736)), (5, .int (nI (4 * n)))] := hl1
  refine lv_aload_n hx hb dL_law_1173 rfl (lv_at hl1 3 rfl) ?_
  refine lw_arg C hX hbl hbA hS1 1 (by omega) hL (lv_at hl1 1 rfl) (lv_at hl1 6 rfl) (by decide) dL_law_1174 dL_law_1175 dL_law_1177 dL_law_1178 dL_law_1179 ?_
  refine g_calli (va_runV (As := [.int (xs (4 * n + 1))]) (rest := []) C.1 (hM2 k9 Y hp) (cwV 1 C.1.2.2.2.2 (gV0 qw_1732 qw_1733 qw_1734 qw_81 qw_1735) rfl rfl rfl (by decide +kernel) ⟨by show f2 + 1 ≤ 2048; omega, by show 8 + (2 + 11) + n2 ≤ 94400; omega⟩) (g_rModel C hW1 hS1 [.int (xs (4 * n + 1))]) rfl rfl hl1.1 rfl (lv_room (Nat.le_of_ble_eq_true rfl)) dL_law_1180 ⟨hc, hs⟩) hS1 (fun r Z H2 locs2 hW2 hS2 hp2 => ?_)
  refine lv_istore hx hb dL_law_1183 hl1 (by decide) rfl (fun ls2 hl2 => ?_)
  replace hl2 : lv_has ls2 10 [(7, .int r), (6, .int k9), (0, .ref b), (1, .ref (ad G 715)), (2, .ref (ad G 723)), (3, .ref (ad G 735)), (4, .ref (ad G 736)), (5, .int (nI (4 * n)))] := hl2
  obtain ⟨hs1, hs2⟩ := hstep k9 Y hp r Z hp2
  exact lw_cmp C hW2 hS2 hl2.1 (lv_at hl2 4 rfl) (lv_at hl2 5 rfl) (lv_at hl2 1 rfl) (lv_at hl2 0 rfl) hs1 hs2 hc hs dL_law_1185 dL_law_1186 dL_law_1189 dL_law_1191 dL_law_1196 dL_law_1198 dL_law_1201 dL_law_1202 dL_law_1203 dL_law_1204 dL_law_1206 dL_law_1207 dL_law_1208 dL_law_1213 (by decide) (fun H3 locs3 h1 h2 => kk k9 Y hp r Z hp2 H3 locs3 ls2 h1 h2 hl2)
theorem lW_meltingPointByDifferences : Cond.codeWith yL_meltingPointByDifferences cL_meltingPointByDifferences 4 (some .int) [(0, 9, 12, 13), (0, 9, 15, 27)] ∈ lw_all := lw_mem 1122 (by decide +kernel) (by decide +kernel)
set_option maxHeartbeats 2000000 in
theorem lC_meltingPointByDifferences (C : Cx p m c cL_law 10 s args lw_all "FoundryLaw" G) (hX : va_X b L xs s s.heap) (hbl : b < s.heap.size) (hbA : ¬ Ab G b) (hS : va_S (Ab G) s.heap H locs) (hW : Wd G X H) {n : Nat} (hj : 4 * n + 3 < L) (hL : L < 2 ^ 31) (hl : lv_has ls 10 [(0, .ref b), (1, .ref (ad G 715)), (2, .ref (ad G 723)), (3, .ref (ad G 735)), (4, .ref (ad G 736)), (5, .int (nI (4 * n)))])
    {k f n1 f2 n2 : Nat} {post : Int32 → St → Prop} {postx : String → St → Prop} {post2 : St → Int32 → St → Prop} (hf : f ≤ 2000) (hn : n1 ≤ 94000) (hf2 : f2 ≤ 2000) (hn2 : n2 ≤ 94000) (hc : cells + k ≤ 714529) (hs : slots + 6 * k ≤ 6893124)
    (hM : MetXI l G k yX7_meltingPointByDifferences (wsG yX7_meltingPointByDifferences cX7_meltingPointByDifferences 2 (some .int)) (rmk k f n1) [.ref (ad G 715), .int (xs (4 * n + 1))] X post postx) (hmem : ∀ (E : String) (Y : St), postx E Y → E ∈ ["java/lang/IndexOutOfBoundsException", "java/util/NoSuchElementException"])
    (hM2 : ∀ (k9 : Int32) (Y : St), lpost ["java/lang/IndexOutOfBoundsException", "java/util/NoSuchElementException"] id post postx k9 Y → MetI l G yX8_meltingPointByDifferences (wsG yX8_meltingPointByDifferences cX8_meltingPointByDifferences 2 (some .int)) (rmz f2 n2) [.ref (ad G 723), .int (xs (4 * n + 1))] Y (post2 Y))
    (hstep : ∀ (k9 : Int32) (Y : St), lpost ["java/lang/IndexOutOfBoundsException", "java/util/NoSuchElementException"] id post postx k9 Y → ∀ (r : Int32) (Z : St), post2 Y r Z → Z.1 15 0 = k9 ∧ (k9 = 0 → Z.1 27 0 = r))
    (kk : ∀ (k9 : Int32) (Y : St), lpost ["java/lang/IndexOutOfBoundsException", "java/util/NoSuchElementException"] id post postx k9 Y → ∀ (r : Int32) (Z : St), post2 Y r Z → ∀ (H1 : Heap) (locs1 : List Loc) (ls1 : Array Slot), Wd G Z H1 → va_S (Ab G) s.heap H1 locs1 → lv_has ls1 10 [(7, .int r), (6, .int k9), (0, .ref b), (1, .ref (ad G 715)), (2, .ref (ad G 723)), (3, .ref (ad G 735)), (4, .ref (ad G 736)), (5, .int (nI (4 * n)))] → W p l e room_1 s m args below meth c H1 locs1 (cells + k) (slots + 6 * k) Q (F0 m 2989 ls1 [])) : W p l e room_1 s m args below meth c H locs cells slots Q (F0 m 1216 ls []) := by
  have hx := C.1.1
  have hb := C.1.2.1
  refine lv_aload_n hx hb dL_law_1216 rfl (lv_at hl 1 rfl) ?_
  refine lw_arg C hX hbl hbA hS 1 (by omega) hL (lv_at hl 0 rfl) (lv_at hl 5 rfl) (by decide) dL_law_1217 dL_law_1218 dL_law_1220 dL_law_1221 dL_law_1222 ?_
  refine lv_aload_n hx hb dL_law_1223 rfl (lv_at hl 3 rfl) ?_
  refine g_cxi (vx_runSX (hh := [(0, 9, 12, 13), (0, 9, 15, 27)]) (As := [.ref (ad G 715), .int (xs (4 * n + 1)), .ref (ad G 735)]) (rest := []) C.1 (hL_meltingPointByDifferences l G X (xs (4 * n + 1)) hM hmem) (vx_cwSW 3 C.1.2.2.2.2 (gSW0 qw_1120 qw_1121 qw_70 lW_meltingPointByDifferences) rfl rfl rfl (by decide +kernel) ⟨by show f + 1 + 1 ≤ 2048; omega, by show 8 + (4 + 11) + (n1 + 21) ≤ 94400; omega⟩) (g_pre C hW hS [.ref (ad G 715), .int (xs (4 * n + 1)), .ref (ad G 735)]) rfl rfl hl.1 rfl (lv_room (Nat.le_of_ble_eq_true rfl)) dL_law_1224 ⟨hc, hs⟩) hS (fun _ _ _ _ _ _ _ _ h => h.elim) ?_
  intro k9 Y H1 locs1 hW1 hS1 hp
  refine lv_istore hx hb dL_law_1227 hl (by decide) rfl (fun ls1 hl1 => ?_)
  replace hl1 : lv_has ls1 10 [(6, .int k9), (0, .ref b), (1, .ref (ad G 715)), (2, .ref (ad G 723)), (3, .ref (ad G 735)), (4, .ref (ad G 736)), (5, .int (nI (4 * n)))] := hl1
  refine lv_aload_n hx hb dL_law_1229 rfl (lv_at hl1 3 rfl) ?_
  refine lw_arg C hX hbl hbA hS1 1 (by omega) hL (lv_at hl1 1 rfl) (lv_at hl1 6 rfl) (by decide) dL_law_1230 dL_law_1231 dL_law_1233 dL_law_1234 dL_law_1235 ?_
  refine g_calli (va_runV (As := [.int (xs (4 * n + 1))]) (rest := []) C.1 (hM2 k9 Y hp) (cwV 1 C.1.2.2.2.2 (gV0 qw_1736 qw_1737 qw_1738 qw_81 qw_1739) rfl rfl rfl (by decide +kernel) ⟨by show f2 + 1 ≤ 2048; omega, by show 8 + (2 + 11) + n2 ≤ 94400; omega⟩) (g_rModel C hW1 hS1 [.int (xs (4 * n + 1))]) rfl rfl hl1.1 rfl (lv_room (Nat.le_of_ble_eq_true rfl)) dL_law_1236 ⟨hc, hs⟩) hS1 (fun r Z H2 locs2 hW2 hS2 hp2 => ?_)
  refine lv_istore hx hb dL_law_1239 hl1 (by decide) rfl (fun ls2 hl2 => ?_)
  replace hl2 : lv_has ls2 10 [(7, .int r), (6, .int k9), (0, .ref b), (1, .ref (ad G 715)), (2, .ref (ad G 723)), (3, .ref (ad G 735)), (4, .ref (ad G 736)), (5, .int (nI (4 * n)))] := hl2
  obtain ⟨hs1, hs2⟩ := hstep k9 Y hp r Z hp2
  exact lw_cmp C hW2 hS2 hl2.1 (lv_at hl2 4 rfl) (lv_at hl2 5 rfl) (lv_at hl2 1 rfl) (lv_at hl2 0 rfl) hs1 hs2 hc hs dL_law_1241 dL_law_1242 dL_law_1245 dL_law_1247 dL_law_1252 dL_law_1254 dL_law_1257 dL_law_1258 dL_law_1259 dL_law_1260 dL_law_1262 dL_law_1263 dL_law_1264 dL_law_1269 (by decide) (fun H3 locs3 h1 h2 => kk k9 Y hp r Z hp2 H3 locs3 ls2 h1 h2 hl2)
theorem lW_minutesUntilMolten : Cond.codeWith yL_minutesUntilMolten cL_minutesUntilMolten 4 (some .int) [(0, 9, 12, 13), (0, 9, 15, 27)] ∈ lw_all := lw_mem 1138 (by decide +kernel) (by decide +kernel)
set_option maxHeartbeats 2000000 in
theorem lC_minutesUntilMolten (C : Cx p m c cL_law 10 s args lw_all "FoundryLaw" G) (hX : va_X b L xs s s.heap) (hbl : b < s.heap.size) (hbA : ¬ Ab G b) (hS : va_S (Ab G) s.heap H locs) (hW : Wd G X H) {n : Nat} (hj : 4 * n + 3 < L) (hL : L < 2 ^ 31) (hl : lv_has ls 10 [(0, .ref b), (1, .ref (ad G 715)), (2, .ref (ad G 723)), (3, .ref (ad G 735)), (4, .ref (ad G 736)), (5, .int (nI (4 * n)))])
    {k f n1 f2 n2 : Nat} {post : Int32 → St → Prop} {postx : String → St → Prop} {post2 : St → Int32 → St → Prop} (hf : f ≤ 2000) (hn : n1 ≤ 94000) (hf2 : f2 ≤ 2000) (hn2 : n2 ≤ 94000) (hc : cells + k ≤ 714529) (hs : slots + 6 * k ≤ 6893124)
    (hM : MetXI l G k yX7_minutesUntilMolten (wsG yX7_minutesUntilMolten cX7_minutesUntilMolten 2 (some .int)) (rmk k f n1) [.ref (ad G 715), .int (xs (4 * n + 1))] X post postx) (hmem : ∀ (E : String) (Y : St), postx E Y → E ∈ ["java/lang/IndexOutOfBoundsException", "java/util/NoSuchElementException"])
    (hM2 : ∀ (k9 : Int32) (Y : St), lpost ["java/lang/IndexOutOfBoundsException", "java/util/NoSuchElementException"] id post postx k9 Y → MetI l G yX8_minutesUntilMolten (wsG yX8_minutesUntilMolten cX8_minutesUntilMolten 5 (some .int)) (rmz f2 n2) [.ref (ad G 723), .int (xs (4 * n + 1))] Y (post2 Y))
    (hstep : ∀ (k9 : Int32) (Y : St), lpost ["java/lang/IndexOutOfBoundsException", "java/util/NoSuchElementException"] id post postx k9 Y → ∀ (r : Int32) (Z : St), post2 Y r Z → Z.1 15 0 = k9 ∧ (k9 = 0 → Z.1 27 0 = r))
    (kk : ∀ (k9 : Int32) (Y : St), lpost ["java/lang/IndexOutOfBoundsException", "java/util/NoSuchElementException"] id post postx k9 Y → ∀ (r : Int32) (Z : St), post2 Y r Z → ∀ (H1 : Heap) (locs1 : List Loc) (ls1 : Array Slot), Wd G Z H1 → va_S (Ab G) s.heap H1 locs1 → lv_has ls1 10 [(7, .int r), (6, .int k9), (0, .ref b), (1, .ref (ad G 715)), (2, .ref (ad G 723)), (3, .ref (ad G 735)), (4, .ref (ad G 736)), (5, .int (nI (4 * n)))] → W p l e room_1 s m args below meth c H1 locs1 (cells + k) (slots + 6 * k) Q (F0 m 2989 ls1 [])) : W p l e room_1 s m args below meth c H locs cells slots Q (F0 m 1335 ls []) := by
  have hx := C.1.1
  have hb := C.1.2.1
  refine lv_aload_n hx hb dL_law_1335 rfl (lv_at hl 1 rfl) ?_
  refine lw_arg C hX hbl hbA hS 1 (by omega) hL (lv_at hl 0 rfl) (lv_at hl 5 rfl) (by decide) dL_law_1336 dL_law_1337 dL_law_1339 dL_law_1340 dL_law_1341 ?_
  refine lv_aload_n hx hb dL_law_1342 rfl (lv_at hl 3 rfl) ?_
  refine g_cxi (vx_runSX (hh := [(0, 9, 12, 13), (0, 9, 15, 27)]) (As := [.ref (ad G 715), .int (xs (4 * n + 1)), .ref (ad G 735)]) (rest := []) C.1 (hL_minutesUntilMolten l G X (xs (4 * n + 1)) hM hmem) (vx_cwSW 3 C.1.2.2.2.2 (gSW0 qw_1136 qw_1137 qw_70 lW_minutesUntilMolten) rfl rfl rfl (by decide +kernel) ⟨by show f + 1 + 1 ≤ 2048; omega, by show 8 + (4 + 11) + (n1 + 21) ≤ 94400; omega⟩) (g_pre C hW hS [.ref (ad G 715), .int (xs (4 * n + 1)), .ref (ad G 735)]) rfl rfl hl.1 rfl (lv_room (Nat.le_of_ble_eq_true rfl)) dL_law_1343 ⟨hc, hs⟩) hS (fun _ _ _ _ _ _ _ _ h => h.elim) ?_
  intro k9 Y H1 locs1 hW1 hS1 hp
  refine lv_istore hx hb dL_law_1346 hl (by decide) rfl (fun ls1 hl1 => ?_)
  replace hl1 : lv_has ls1 10 [(6, .int k9), (0, .ref b), (1, .ref (ad G 715)), (2, .ref (ad G 723)), (3, .ref (ad G 735)), (4, .ref (ad G 736)), (5, .int (nI (4 * n)))] := hl1
  refine lv_aload_n hx hb dL_law_1348 rfl (lv_at hl1 3 rfl) ?_
  refine lw_arg C hX hbl hbA hS1 1 (by omega) hL (lv_at hl1 1 rfl) (lv_at hl1 6 rfl) (by decide) dL_law_1349 dL_law_1350 dL_law_1352 dL_law_1353 dL_law_1354 ?_
  refine g_calli (va_runV (As := [.int (xs (4 * n + 1))]) (rest := []) C.1 (hM2 k9 Y hp) (cwV 1 C.1.2.2.2.2 (gV0 qw_1745 qw_1746 qw_1747 qw_81 qw_1748) rfl rfl rfl (by decide +kernel) ⟨by show f2 + 1 ≤ 2048; omega, by show 8 + (5 + 11) + n2 ≤ 94400; omega⟩) (g_rModel C hW1 hS1 [.int (xs (4 * n + 1))]) rfl rfl hl1.1 rfl (lv_room (Nat.le_of_ble_eq_true rfl)) dL_law_1355 ⟨hc, hs⟩) hS1 (fun r Z H2 locs2 hW2 hS2 hp2 => ?_)
  refine lv_istore hx hb dL_law_1358 hl1 (by decide) rfl (fun ls2 hl2 => ?_)
  replace hl2 : lv_has ls2 10 [(7, .int r), (6, .int k9), (0, .ref b), (1, .ref (ad G 715)), (2, .ref (ad G 723)), (3, .ref (ad G 735)), (4, .ref (ad G 736)), (5, .int (nI (4 * n)))] := hl2
  obtain ⟨hs1, hs2⟩ := hstep k9 Y hp r Z hp2
  exact lw_cmp C hW2 hS2 hl2.1 (lv_at hl2 4 rfl) (lv_at hl2 5 rfl) (lv_at hl2 1 rfl) (lv_at hl2 0 rfl) hs1 hs2 hc hs dL_law_1360 dL_law_1361 dL_law_1364 dL_law_1366 dL_law_1371 dL_law_1373 dL_law_1376 dL_law_1377 dL_law_1378 dL_law_1379 dL_law_1381 dL_law_1382 dL_law_1383 dL_law_1388 (by decide) (fun H3 locs3 h1 h2 => kk k9 Y hp r Z hp2 H3 locs3 ls2 h1 h2 hl2)
theorem lW_minutesUntilMoltenByDivision : Cond.codeWith yL_minutesUntilMoltenByDivision cL_minutesUntilMoltenByDivision 4 (some .int) [(0, 9, 12, 13), (0, 9, 15, 27)] ∈ lw_all := lw_mem 1151 (by decide +kernel) (by decide +kernel)
set_option maxHeartbeats 2000000 in
theorem lC_minutesUntilMoltenByDivision (C : Cx p m c cL_law 10 s args lw_all "FoundryLaw" G) (hX : va_X b L xs s s.heap) (hbl : b < s.heap.size) (hbA : ¬ Ab G b) (hS : va_S (Ab G) s.heap H locs) (hW : Wd G X H) {n : Nat} (hj : 4 * n + 3 < L) (hL : L < 2 ^ 31) (hl : lv_has ls 10 [(0, .ref b), (1, .ref (ad G 715)), (2, .ref (ad G 723)), (3, .ref (ad G 735)), (4, .ref (ad G 736)), (5, .int (nI (4 * n)))])
    {k f n1 f2 n2 : Nat} {post : Int32 → St → Prop} {postx : String → St → Prop} {post2 : St → Int32 → St → Prop} (hf : f ≤ 2000) (hn : n1 ≤ 94000) (hf2 : f2 ≤ 2000) (hn2 : n2 ≤ 94000) (hc : cells + k ≤ 714529) (hs : slots + 6 * k ≤ 6893124)
    (hM : MetXI l G k yX7_minutesUntilMoltenByDivision (wsG yX7_minutesUntilMoltenByDivision cX7_minutesUntilMoltenByDivision 2 (some .int)) (rmk k f n1) [.ref (ad G 715), .int (xs (4 * n + 1))] X post postx) (hmem : ∀ (E : String) (Y : St), postx E Y → E ∈ ["java/lang/IndexOutOfBoundsException", "java/util/NoSuchElementException"])
    (hM2 : ∀ (k9 : Int32) (Y : St), lpost ["java/lang/IndexOutOfBoundsException", "java/util/NoSuchElementException"] id post postx k9 Y → MetI l G yX8_minutesUntilMoltenByDivision (wsG yX8_minutesUntilMoltenByDivision cX8_minutesUntilMoltenByDivision 2 (some .int)) (rmz f2 n2) [.ref (ad G 723), .int (xs (4 * n + 1))] Y (post2 Y))
    (hstep : ∀ (k9 : Int32) (Y : St), lpost ["java/lang/IndexOutOfBoundsException", "java/util/NoSuchElementException"] id post postx k9 Y → ∀ (r : Int32) (Z : St), post2 Y r Z → Z.1 15 0 = k9 ∧ (k9 = 0 → Z.1 27 0 = r))
    (kk : ∀ (k9 : Int32) (Y : St), lpost ["java/lang/IndexOutOfBoundsException", "java/util/NoSuchElementException"] id post postx k9 Y → ∀ (r : Int32) (Z : St), post2 Y r Z → ∀ (H1 : Heap) (locs1 : List Loc) (ls1 : Array Slot), Wd G Z H1 → va_S (Ab G) s.heap H1 locs1 → lv_has ls1 10 [(7, .int r), (6, .int k9), (0, .ref b), (1, .ref (ad G 715)), (2, .ref (ad G 723)), (3, .ref (ad G 735)), (4, .ref (ad G 736)), (5, .int (nI (4 * n)))] → W p l e room_1 s m args below meth c H1 locs1 (cells + k) (slots + 6 * k) Q (F0 m 2989 ls1 [])) : W p l e room_1 s m args below meth c H locs cells slots Q (F0 m 1391 ls []) := by
  have hx := C.1.1
  have hb := C.1.2.1
  refine lv_aload_n hx hb dL_law_1391 rfl (lv_at hl 1 rfl) ?_
  refine lw_arg C hX hbl hbA hS 1 (by omega) hL (lv_at hl 0 rfl) (lv_at hl 5 rfl) (by decide) dL_law_1392 dL_law_1393 dL_law_1395 dL_law_1396 dL_law_1397 ?_
  refine lv_aload_n hx hb dL_law_1398 rfl (lv_at hl 3 rfl) ?_
  refine g_cxi (vx_runSX (hh := [(0, 9, 12, 13), (0, 9, 15, 27)]) (As := [.ref (ad G 715), .int (xs (4 * n + 1)), .ref (ad G 735)]) (rest := []) C.1 (hL_minutesUntilMoltenByDivision l G X (xs (4 * n + 1)) hM hmem) (vx_cwSW 3 C.1.2.2.2.2 (gSW0 qw_1149 qw_1150 qw_70 lW_minutesUntilMoltenByDivision) rfl rfl rfl (by decide +kernel) ⟨by show f + 1 + 1 ≤ 2048; omega, by show 8 + (4 + 11) + (n1 + 21) ≤ 94400; omega⟩) (g_pre C hW hS [.ref (ad G 715), .int (xs (4 * n + 1)), .ref (ad G 735)]) rfl rfl hl.1 rfl (lv_room (Nat.le_of_ble_eq_true rfl)) dL_law_1399 ⟨hc, hs⟩) hS (fun _ _ _ _ _ _ _ _ h => h.elim) ?_
  intro k9 Y H1 locs1 hW1 hS1 hp
  refine lv_istore hx hb dL_law_1402 hl (by decide) rfl (fun ls1 hl1 => ?_)
  replace hl1 : lv_has ls1 10 [(6, .int k9), (0, .ref b), (1, .ref (ad G 715)), (2, .ref (ad G 723)), (3, .ref (ad G 735)), (4, .ref (ad G 736)), (5, .int (nI (4 * n)))] := hl1
  refine lv_aload_n hx hb dL_law_1404 rfl (lv_at hl1 3 rfl) ?_
  refine lw_arg C hX hbl hbA hS1 1 (by omega) hL (lv_at hl1 1 rfl) (lv_at hl1 6 rfl) (by decide) dL_law_1405 dL_law_1406 dL_law_1408 dL_law_1409 dL_law_1410 ?_
  refine g_calli (va_runV (As := [.int (xs (4 * n + 1))]) (rest := []) C.1 (hM2 k9 Y hp) (cwV 1 C.1.2.2.2.2 (gV0 qw_1749 qw_1750 qw_1751 qw_81 qw_1752) rfl rfl rfl (by decide +kernel) ⟨by show f2 + 1 ≤ 2048; omega, by show 8 + (2 + 11) + n2 ≤ 94400; omega⟩) (g_rModel C hW1 hS1 [.int (xs (4 * n + 1))]) rfl rfl hl1.1 rfl (lv_room (Nat.le_of_ble_eq_true rfl)) dL_law_1411 ⟨hc, hs⟩) hS1 (fun r Z H2 locs2 hW2 hS2 hp2 => ?_)
  refine lv_istore hx hb dL_law_1414 hl1 (by decide) rfl (fun ls2 hl2 => ?_)
  replace hl2 : lv_has ls2 10 [(7, .int r), (6, .int k9), (0, .ref b), (1, .ref (ad G 715)), (2, .ref (ad G 723)), (3, .ref (ad G 735)), (4, .ref (ad G 736)), (5, .int (nI (4 * n)))] := hl2
  obtain ⟨hs1, hs2⟩ := hstep k9 Y hp r Z hp2
  exact lw_cmp C hW2 hS2 hl2.1 (lv_at hl2 4 rfl) (lv_at hl2 5 rfl) (lv_at hl2 1 rfl) (lv_at hl2 0 rfl) hs1 hs2 hc hs dL_law_1416 dL_law_1417 dL_law_1420 dL_law_1422 dL_law_1427 dL_law_1429 dL_law_1432 dL_law_1433 dL_law_1434 dL_law_1435 dL_law_1437 dL_law_1438 dL_law_1439 dL_law_1444 (by decide) (fun H3 locs3 h1 h2 => kk k9 Y hp r Z hp2 H3 locs3 ls2 h1 h2 hl2)
theorem lW_furnaceByTemperature : Cond.codeWith yL_furnaceByTemperature cL_furnaceByTemperature 4 (some .int) [(0, 9, 12, 27)] ∈ lw_all := lw_mem 1159 (by decide +kernel) (by decide +kernel)
set_option maxHeartbeats 2000000 in
theorem lC_furnaceByTemperature (C : Cx p m c cL_law 10 s args lw_all "FoundryLaw" G) (hX : va_X b L xs s s.heap) (hbl : b < s.heap.size) (hbA : ¬ Ab G b) (hS : va_S (Ab G) s.heap H locs) (hW : Wd G X H) {n : Nat} (hj : 4 * n + 3 < L) (hL : L < 2 ^ 31) (hl : lv_has ls 10 [(0, .ref b), (1, .ref (ad G 715)), (2, .ref (ad G 723)), (3, .ref (ad G 735)), (4, .ref (ad G 736)), (5, .int (nI (4 * n)))])
    {k f n1 f2 n2 : Nat} {post : Int32 → St → Prop} {postx : String → St → Prop} {post2 : St → Int32 → St → Prop} (hf : f ≤ 2000) (hn : n1 ≤ 94000) (hf2 : f2 ≤ 2000) (hn2 : n2 ≤ 94000) (hc : cells + k ≤ 714529) (hs : slots + 6 * k ≤ 6893124)
    (hM : MetXI l G k yX7_furnaceByTemperature (wsG yX7_furnaceByTemperature cX7_furnaceByTemperature 3 (some .int)) (rmk k f n1) [.ref (ad G 715), .int (xs (4 * n + 1))] X post postx) (hmem : ∀ (E : String) (Y : St), postx E Y → E ∈ ["java/util/NoSuchElementException"])
    (hM2 : ∀ (k9 : Int32) (Y : St), lpost ["java/util/NoSuchElementException"] id post postx k9 Y → MetI l G yX8_furnaceByTemperature (wsG yX8_furnaceByTemperature cX8_furnaceByTemperature 6 (some .int)) (rmz f2 n2) [.ref (ad G 723), .int (xs (4 * n + 1))] Y (post2 Y))
    (hstep : ∀ (k9 : Int32) (Y : St), lpost ["java/util/NoSuchElementException"] id post postx k9 Y → ∀ (r : Int32) (Z : St), post2 Y r Z → Z.1 15 0 = k9 ∧ (k9 = 0 → Z.1 27 0 = r))
    (kk : ∀ (k9 : Int32) (Y : St), lpost ["java/util/NoSuchElementException"] id post postx k9 Y → ∀ (r : Int32) (Z : St), post2 Y r Z → ∀ (H1 : Heap) (locs1 : List Loc) (ls1 : Array Slot), Wd G Z H1 → va_S (Ab G) s.heap H1 locs1 → lv_has ls1 10 [(7, .int r), (6, .int k9), (0, .ref b), (1, .ref (ad G 715)), (2, .ref (ad G 723)), (3, .ref (ad G 735)), (4, .ref (ad G 736)), (5, .int (nI (4 * n)))] → W p l e room_1 s m args below meth c H1 locs1 (cells + k) (slots + 6 * k) Q (F0 m 2989 ls1 [])) : W p l e room_1 s m args below meth c H locs cells slots Q (F0 m 1447 ls []) := by
  have hx := C.1.1
  have hb := C.1.2.1
  refine lv_aload_n hx hb dL_law_1447 rfl (lv_at hl 1 rfl) ?_
  refine lw_arg C hX hbl hbA hS 1 (by omega) hL (lv_at hl 0 rfl) (lv_at hl 5 rfl) (by decide) dL_law_1448 dL_law_1449 dL_law_1451 dL_law_1452 dL_law_1453 ?_
  refine lv_aload_n hx hb dL_law_1454 rfl (lv_at hl 3 rfl) ?_
  refine g_cxi (vx_runSX (hh := [(0, 9, 12, 27)]) (As := [.ref (ad G 715), .int (xs (4 * n + 1)), .ref (ad G 735)]) (rest := []) C.1 (hL_furnaceByTemperature l G X (xs (4 * n + 1)) hM hmem) (vx_cwSW 3 C.1.2.2.2.2 (gSW0 qw_1157 qw_1158 qw_70 lW_furnaceByTemperature) rfl rfl rfl (by decide +kernel) ⟨by show f + 1 + 1 ≤ 2048; omega, by show 8 + (4 + 11) + (n1 + 22) ≤ 94400; omega⟩) (g_pre C hW hS [.ref (ad G 715), .int (xs (4 * n + 1)), .ref (ad G 735)]) rfl rfl hl.1 rfl (lv_room (Nat.le_of_ble_eq_true rfl)) dL_law_1455 ⟨hc, hs⟩) hS (fun _ _ _ _ _ _ _ _ h => h.elim) ?_
  intro k9 Y H1 locs1 hW1 hS1 hp
  refine lv_istore hx hb dL_law_1458 hl (by decide) rfl (fun ls1 hl1 => ?_)
  replace hl1 : lv_has ls1 10 [(6, .int k9), (0, .ref b), (1, .ref (ad G 715)), (2, .ref (ad G 723)), (3, .ref (ad G 735)), (4, .ref (ad G 736)), (5, .int (nI (4 * n)))] := hl1
  refine lv_aload_n hx hb dL_law_1460 rfl (lv_at hl1 3 rfl) ?_
  refine lw_arg C hX hbl hbA hS1 1 (by omega) hL (lv_at hl1 1 rfl) (lv_at hl1 6 rfl) (by decide) dL_law_1461 dL_law_1462 dL_law_1464 dL_law_1465 dL_law_1466 ?_
  refine g_calli (va_runV (As := [.int (xs (4 * n + 1))]) (rest := []) C.1 (hM2 k9 Y hp) (cwV 1 C.1.2.2.2.2 (gV0 qw_1754 qw_1755 qw_1756 qw_81 qw_1757) rfl rfl rfl (by decide +kernel) ⟨by show f2 + 1 ≤ 2048; omega, by show 8 + (6 + 11) + n2 ≤ 94400; omega⟩) (g_rModel C hW1 hS1 [.int (xs (4 * n + 1))]) rfl rfl hl1.1 rfl (lv_room (Nat.le_of_ble_eq_true rfl)) dL_law_1467 ⟨hc, hs⟩) hS1 (fun r Z H2 locs2 hW2 hS2 hp2 => ?_)
  refine lv_istore hx hb dL_law_1470 hl1 (by decide) rfl (fun ls2 hl2 => ?_)
  replace hl2 : lv_has ls2 10 [(7, .int r), (6, .int k9), (0, .ref b), (1, .ref (ad G 715)), (2, .ref (ad G 723)), (3, .ref (ad G 735)), (4, .ref (ad G 736)), (5, .int (nI (4 * n)))] := hl2
  obtain ⟨hs1, hs2⟩ := hstep k9 Y hp r Z hp2
  exact lw_cmp C hW2 hS2 hl2.1 (lv_at hl2 4 rfl) (lv_at hl2 5 rfl) (lv_at hl2 1 rfl) (lv_at hl2 0 rfl) hs1 hs2 hc hs dL_law_1472 dL_law_1473 dL_law_1476 dL_law_1478 dL_law_1483 dL_law_1485 dL_law_1488 dL_law_1489 dL_law_1490 dL_law_1491 dL_law_1493 dL_law_1494 dL_law_1495 dL_law_1500 (by decide) (fun H3 locs3 h1 h2 => kk k9 Y hp r Z hp2 H3 locs3 ls2 h1 h2 hl2)
theorem lW_ladleMass : Cond.codeWith yL_ladleMass cL_ladleMass 5 (some .int) [(0, 10, 13, 13), (0, 10, 17, 15)] ∈ lw_all := lw_mem 1174 (by decide +kernel) (by decide +kernel)
set_option maxHeartbeats 2000000 in
theorem lC_ladleMass (C : Cx p m c cL_law 10 s args lw_all "FoundryLaw" G) (hX : va_X b L xs s s.heap) (hbl : b < s.heap.size) (hbA : ¬ Ab G b) (hS : va_S (Ab G) s.heap H locs) (hW : Wd G X H) {n : Nat} (hj : 4 * n + 3 < L) (hL : L < 2 ^ 31) (hl : lv_has ls 10 [(0, .ref b), (1, .ref (ad G 715)), (2, .ref (ad G 723)), (3, .ref (ad G 735)), (4, .ref (ad G 736)), (5, .int (nI (4 * n)))])
    {k f n1 f2 n2 : Nat} {post : Int32 → St → Prop} {postx : String → St → Prop} {post2 : St → Int32 → St → Prop} (hf : f ≤ 2000) (hn : n1 ≤ 94000) (hf2 : f2 ≤ 2000) (hn2 : n2 ≤ 94000) (hc : cells + k ≤ 714529) (hs : slots + 6 * k ≤ 6893124)
    (hM : MetXI l G k yX7_ladleMass (wsG yX7_ladleMass cX7_ladleMass 3 (some .int)) (rmk k f n1) [.ref (ad G 715), .int (xs (4 * n + 1)), .int (((xs (4 * n + 2)).toUInt32 % 65536).toInt32)] X post postx) (hmem : ∀ (E : String) (Y : St), postx E Y → E ∈ ["java/lang/IndexOutOfBoundsException", "java/lang/IllegalArgumentException"])
    (hM2 : ∀ (k9 : Int32) (Y : St), lpost ["java/lang/IndexOutOfBoundsException", "java/lang/IllegalArgumentException"] id post postx k9 Y → MetI l G yX8_ladleMass (wsG yX8_ladleMass cX8_ladleMass 3 (some .int)) (rmz f2 n2) [.ref (ad G 723), .int (xs (4 * n + 1)), .int (((xs (4 * n + 2)).toUInt32 % 65536).toInt32)] Y (post2 Y))
    (hstep : ∀ (k9 : Int32) (Y : St), lpost ["java/lang/IndexOutOfBoundsException", "java/lang/IllegalArgumentException"] id post postx k9 Y → ∀ (r : Int32) (Z : St), post2 Y r Z → Z.1 15 0 = k9 ∧ (k9 = 0 → Z.1 27 0 = r))
    (kk : ∀ (k9 : Int32) (Y : St), lpost ["java/lang/IndexOutOfBoundsException", "java/lang/IllegalArgumentException"] id post postx k9 Y → ∀ (r : Int32) (Z : St), post2 Y r Z → ∀ (H1 : Heap) (locs1 : List Loc) (ls1 : Array Slot), Wd G Z H1 → va_S (Ab G) s.heap H1 locs1 → lv_has ls1 10 [(7, .int r), (6, .int k9), (0, .ref b), (1, .ref (ad G 715)), (2, .ref (ad G 723)), (3, .ref (ad G 735)), (4, .ref (ad G 736)), (5, .int (nI (4 * n)))] → W p l e room_1 s m args below meth c H1 locs1 (cells + k) (slots + 6 * k) Q (F0 m 2989 ls1 [])) : W p l e room_1 s m args below meth c H locs cells slots Q (F0 m 1503 ls []) := by
  have hx := C.1.1
  have hb := C.1.2.1
  refine lv_aload_n hx hb dL_law_1503 rfl (lv_at hl 1 rfl) ?_
  refine lw_arg C hX hbl hbA hS 1 (by omega) hL (lv_at hl 0 rfl) (lv_at hl 5 rfl) (by decide) dL_law_1504 dL_law_1505 dL_law_1507 dL_law_1508 dL_law_1509 ?_
  refine lw_argc C hX hbl hbA hS 2 (by omega) hL (lv_at hl 0 rfl) (lv_at hl 5 rfl) (by decide) dL_law_1510 dL_law_1511 dL_law_1513 dL_law_1514 dL_law_1515 dL_law_1516 ?_
  refine lv_aload_n hx hb dL_law_1517 rfl (lv_at hl 3 rfl) ?_
  refine g_cxi (vx_runSX (hh := [(0, 10, 13, 13), (0, 10, 17, 15)]) (As := [.ref (ad G 715), .int (xs (4 * n + 1)), .int (((xs (4 * n + 2)).toUInt32 % 65536).toInt32), .ref (ad G 735)]) (rest := []) C.1 (hL_ladleMass l G X (xs (4 * n + 1)) (((xs (4 * n + 2)).toUInt32 % 65536).toInt32) hM hmem) (vx_cwSW 4 C.1.2.2.2.2 (gSW0 qw_1172 qw_1173 qw_70 lW_ladleMass) rfl rfl rfl (by decide +kernel) ⟨by show f + 1 + 1 ≤ 2048; omega, by show 8 + (5 + 11) + (n1 + 22) ≤ 94400; omega⟩) (g_pre C hW hS [.ref (ad G 715), .int (xs (4 * n + 1)), .int (((xs (4 * n + 2)).toUInt32 % 65536).toInt32), .ref (ad G 735)]) rfl rfl hl.1 rfl (lv_room (Nat.le_of_ble_eq_true rfl)) dL_law_1518 ⟨hc, hs⟩) hS (fun _ _ _ _ _ _ _ _ h => h.elim) ?_
  intro k9 Y H1 locs1 hW1 hS1 hp
  refine lv_istore hx hb dL_law_1521 hl (by decide) rfl (fun ls1 hl1 => ?_)
  replace hl1 : lv_has ls1 10 [(6, .int k9), (0, .ref b), (1, .ref (ad G 715)), (2, .ref (ad G 723)), (3, .ref (ad G 735)), (4, .ref (ad G 736)), (5, .int (nI (4 * n)))] := hl1
  refine lv_aload_n hx hb dL_law_1523 rfl (lv_at hl1 3 rfl) ?_
  refine lw_arg C hX hbl hbA hS1 1 (by omega) hL (lv_at hl1 1 rfl) (lv_at hl1 6 rfl) (by decide) dL_law_1524 dL_law_1525 dL_law_1527 dL_law_1528 dL_law_1529 ?_
  refine lw_argc C hX hbl hbA hS1 2 (by omega) hL (lv_at hl1 1 rfl) (lv_at hl1 6 rfl) (by decide) dL_law_1530 dL_law_1531 dL_law_1533 dL_law_1534 dL_law_1535 dL_law_1536 ?_
  refine g_calli (va_runV (As := [.int (xs (4 * n + 1)), .int (((xs (4 * n + 2)).toUInt32 % 65536).toInt32)]) (rest := []) C.1 (hM2 k9 Y hp) (cwV 2 C.1.2.2.2.2 (gV0 qw_1758 qw_1759 qw_1760 qw_81 qw_1761) rfl rfl rfl (by decide +kernel) ⟨by show f2 + 1 ≤ 2048; omega, by show 8 + (3 + 11) + n2 ≤ 94400; omega⟩) (g_rModel C hW1 hS1 [.int (xs (4 * n + 1)), .int (((xs (4 * n + 2)).toUInt32 % 65536).toInt32)]) rfl rfl hl1.1 rfl (lv_room (Nat.le_of_ble_eq_true rfl)) dL_law_1537 ⟨hc, hs⟩) hS1 (fun r Z H2 locs2 hW2 hS2 hp2 => ?_)
  refine lv_istore hx hb dL_law_1540 hl1 (by decide) rfl (fun ls2 hl2 => ?_)
  replace hl2 : lv_has ls2 10 [(7, .int r), (6, .int k9), (0, .ref b), (1, .ref (ad G 715)), (2, .ref (ad G 723)), (3, .ref (ad G 735)), (4, .ref (ad G 736)), (5, .int (nI (4 * n)))] := hl2
  obtain ⟨hs1, hs2⟩ := hstep k9 Y hp r Z hp2
  exact lw_cmp C hW2 hS2 hl2.1 (lv_at hl2 4 rfl) (lv_at hl2 5 rfl) (lv_at hl2 1 rfl) (lv_at hl2 0 rfl) hs1 hs2 hc hs dL_law_1542 dL_law_1543 dL_law_1546 dL_law_1548 dL_law_1553 dL_law_1555 dL_law_1558 dL_law_1559 dL_law_1560 dL_law_1561 dL_law_1563 dL_law_1564 dL_law_1565 dL_law_1570 (by decide) (fun H3 locs3 h1 h2 => kk k9 Y hp r Z hp2 H3 locs3 ls2 h1 h2 hl2)
theorem lW_ladleTotal : Cond.codeWith yL_ladleTotal cL_ladleTotal 4 (some .int) [(0, 9, 12, 13)] ∈ lw_all := lw_mem 1181 (by decide +kernel) (by decide +kernel)
set_option maxHeartbeats 2000000 in
theorem lC_ladleTotal (C : Cx p m c cL_law 10 s args lw_all "FoundryLaw" G) (hX : va_X b L xs s s.heap) (hbl : b < s.heap.size) (hbA : ¬ Ab G b) (hS : va_S (Ab G) s.heap H locs) (hW : Wd G X H) {n : Nat} (hj : 4 * n + 3 < L) (hL : L < 2 ^ 31) (hl : lv_has ls 10 [(0, .ref b), (1, .ref (ad G 715)), (2, .ref (ad G 723)), (3, .ref (ad G 735)), (4, .ref (ad G 736)), (5, .int (nI (4 * n)))])
    {k f n1 f2 n2 : Nat} {post : Int32 → St → Prop} {postx : String → St → Prop} {post2 : St → Int32 → St → Prop} (hf : f ≤ 2000) (hn : n1 ≤ 94000) (hf2 : f2 ≤ 2000) (hn2 : n2 ≤ 94000) (hc : cells + k ≤ 714529) (hs : slots + 6 * k ≤ 6893124)
    (hM : MetXI l G k yX7_ladleTotal (wsG yX7_ladleTotal cX7_ladleTotal 2 (some .int)) (rmk k f n1) [.ref (ad G 715), .int (xs (4 * n + 1))] X post postx) (hmem : ∀ (E : String) (Y : St), postx E Y → E ∈ ["java/lang/IndexOutOfBoundsException"])
    (hM2 : ∀ (k9 : Int32) (Y : St), lpost ["java/lang/IndexOutOfBoundsException"] id post postx k9 Y → MetI l G yX8_ladleTotal (wsG yX8_ladleTotal cX8_ladleTotal 2 (some .int)) (rmz f2 n2) [.ref (ad G 723), .int (xs (4 * n + 1))] Y (post2 Y))
    (hstep : ∀ (k9 : Int32) (Y : St), lpost ["java/lang/IndexOutOfBoundsException"] id post postx k9 Y → ∀ (r : Int32) (Z : St), post2 Y r Z → Z.1 15 0 = k9 ∧ (k9 = 0 → Z.1 27 0 = r))
    (kk : ∀ (k9 : Int32) (Y : St), lpost ["java/lang/IndexOutOfBoundsException"] id post postx k9 Y → ∀ (r : Int32) (Z : St), post2 Y r Z → ∀ (H1 : Heap) (locs1 : List Loc) (ls1 : Array Slot), Wd G Z H1 → va_S (Ab G) s.heap H1 locs1 → lv_has ls1 10 [(7, .int r), (6, .int k9), (0, .ref b), (1, .ref (ad G 715)), (2, .ref (ad G 723)), (3, .ref (ad G 735)), (4, .ref (ad G 736)), (5, .int (nI (4 * n)))] → W p l e room_1 s m args below meth c H1 locs1 (cells + k) (slots + 6 * k) Q (F0 m 2989 ls1 [])) : W p l e room_1 s m args below meth c H locs cells slots Q (F0 m 1573 ls []) := by
  have hx := C.1.1
  have hb := C.1.2.1
  refine lv_aload_n hx hb dL_law_1573 rfl (lv_at hl 1 rfl) ?_
  refine lw_arg C hX hbl hbA hS 1 (by omega) hL (lv_at hl 0 rfl) (lv_at hl 5 rfl) (by decide) dL_law_1574 dL_law_1575 dL_law_1577 dL_law_1578 dL_law_1579 ?_
  refine lv_aload_n hx hb dL_law_1580 rfl (lv_at hl 3 rfl) ?_
  refine g_cxi (vx_runSX (hh := [(0, 9, 12, 13)]) (As := [.ref (ad G 715), .int (xs (4 * n + 1)), .ref (ad G 735)]) (rest := []) C.1 (hL_ladleTotal l G X (xs (4 * n + 1)) hM hmem) (vx_cwSW 3 C.1.2.2.2.2 (gSW0 qw_1179 qw_1180 qw_70 lW_ladleTotal) rfl rfl rfl (by decide +kernel) ⟨by show f + 1 + 1 ≤ 2048; omega, by show 8 + (4 + 11) + (n1 + 21) ≤ 94400; omega⟩) (g_pre C hW hS [.ref (ad G 715), .int (xs (4 * n + 1)), .ref (ad G 735)]) rfl rfl hl.1 rfl (lv_room (Nat.le_of_ble_eq_true rfl)) dL_law_1581 ⟨hc, hs⟩) hS (fun _ _ _ _ _ _ _ _ h => h.elim) ?_
  intro k9 Y H1 locs1 hW1 hS1 hp
  refine lv_istore hx hb dL_law_1584 hl (by decide) rfl (fun ls1 hl1 => ?_)
  replace hl1 : lv_has ls1 10 [(6, .int k9), (0, .ref b), (1, .ref (ad G 715)), (2, .ref (ad G 723)), (3, .ref (ad G 735)), (4, .ref (ad G 736)), (5, .int (nI (4 * n)))] := hl1
  refine lv_aload_n hx hb dL_law_1586 rfl (lv_at hl1 3 rfl) ?_
  refine lw_arg C hX hbl hbA hS1 1 (by omega) hL (lv_at hl1 1 rfl) (lv_at hl1 6 rfl) (by decide) dL_law_1587 dL_law_1588 dL_law_1590 dL_law_1591 dL_law_1592 ?_
  refine g_calli (va_runV (As := [.int (xs (4 * n + 1))]) (rest := []) C.1 (hM2 k9 Y hp) (cwV 1 C.1.2.2.2.2 (gV0 qw_1762 qw_1763 qw_1764 qw_81 qw_1765) rfl rfl rfl (by decide +kernel) ⟨by show f2 + 1 ≤ 2048; omega, by show 8 + (2 + 11) + n2 ≤ 94400; omega⟩) (g_rModel C hW1 hS1 [.int (xs (4 * n + 1))]) rfl rfl hl1.1 rfl (lv_room (Nat.le_of_ble_eq_true rfl)) dL_law_1593 ⟨hc, hs⟩) hS1 (fun r Z H2 locs2 hW2 hS2 hp2 => ?_)
  refine lv_istore hx hb dL_law_1596 hl1 (by decide) rfl (fun ls2 hl2 => ?_)
  replace hl2 : lv_has ls2 10 [(7, .int r), (6, .int k9), (0, .ref b), (1, .ref (ad G 715)), (2, .ref (ad G 723)), (3, .ref (ad G 735)), (4, .ref (ad G 736)), (5, .int (nI (4 * n)))] := hl2
  obtain ⟨hs1, hs2⟩ := hstep k9 Y hp r Z hp2
  exact lw_cmp C hW2 hS2 hl2.1 (lv_at hl2 4 rfl) (lv_at hl2 5 rfl) (lv_at hl2 1 rfl) (lv_at hl2 0 rfl) hs1 hs2 hc hs dL_law_1598 dL_law_1599 dL_law_1602 dL_law_1604 dL_law_1609 dL_law_1611 dL_law_1614 dL_law_1615 dL_law_1616 dL_law_1617 dL_law_1619 dL_law_1620 dL_law_1621 dL_law_1626 (by decide) (fun H3 locs3 h1 h2 => kk k9 Y hp r Z hp2 H3 locs3 ls2 h1 h2 hl2)
theorem lW_ladleTemperature : Cond.codeWith yL_ladleTemperature cL_ladleTemperature 4 (some .int) [(0, 9, 12, 13)] ∈ lw_all := lw_mem 1188 (by decide +kernel) (by decide +kernel)
set_option maxHeartbeats 2000000 in
theorem lC_ladleTemperature (C : Cx p m c cL_law 10 s args lw_all "FoundryLaw" G) (hX : va_X b L xs s s.heap) (hbl : b < s.heap.size) (hbA : ¬ Ab G b) (hS : va_S (Ab G) s.heap H locs) (hW : Wd G X H) {n : Nat} (hj : 4 * n + 3 < L) (hL : L < 2 ^ 31) (hl : lv_has ls 10 [(0, .ref b), (1, .ref (ad G 715)), (2, .ref (ad G 723)), (3, .ref (ad G 735)), (4, .ref (ad G 736)), (5, .int (nI (4 * n)))])
    {k f n1 f2 n2 : Nat} {post : Int32 → St → Prop} {postx : String → St → Prop} {post2 : St → Int32 → St → Prop} (hf : f ≤ 2000) (hn : n1 ≤ 94000) (hf2 : f2 ≤ 2000) (hn2 : n2 ≤ 94000) (hc : cells + k ≤ 714529) (hs : slots + 6 * k ≤ 6893124)
    (hM : MetXI l G k yX7_ladleTemperature (wsG yX7_ladleTemperature cX7_ladleTemperature 2 (some .int)) (rmk k f n1) [.ref (ad G 715), .int (xs (4 * n + 1))] X post postx) (hmem : ∀ (E : String) (Y : St), postx E Y → E ∈ ["java/lang/IndexOutOfBoundsException"])
    (hM2 : ∀ (k9 : Int32) (Y : St), lpost ["java/lang/IndexOutOfBoundsException"] id post postx k9 Y → MetI l G yX8_ladleTemperature (wsG yX8_ladleTemperature cX8_ladleTemperature 2 (some .int)) (rmz f2 n2) [.ref (ad G 723), .int (xs (4 * n + 1))] Y (post2 Y))
    (hstep : ∀ (k9 : Int32) (Y : St), lpost ["java/lang/IndexOutOfBoundsException"] id post postx k9 Y → ∀ (r : Int32) (Z : St), post2 Y r Z → Z.1 15 0 = k9 ∧ (k9 = 0 → Z.1 27 0 = r))
    (kk : ∀ (k9 : Int32) (Y : St), lpost ["java/lang/IndexOutOfBoundsException"] id post postx k9 Y → ∀ (r : Int32) (Z : St), post2 Y r Z → ∀ (H1 : Heap) (locs1 : List Loc) (ls1 : Array Slot), Wd G Z H1 → va_S (Ab G) s.heap H1 locs1 → lv_has ls1 10 [(7, .int r), (6, .int k9), (0, .ref b), (1, .ref (ad G 715)), (2, .ref (ad G 723)), (3, .ref (ad G 735)), (4, .ref (ad G 736)), (5, .int (nI (4 * n)))] → W p l e room_1 s m args below meth c H1 locs1 (cells + k) (slots + 6 * k) Q (F0 m 2989 ls1 [])) : W p l e room_1 s m args below meth c H locs cells slots Q (F0 m 1629 ls []) := by
  have hx := C.1.1
  have hb := C.1.2.1
  refine lv_aload_n hx hb dL_law_1629 rfl (lv_at hl 1 rfl) ?_
  refine lw_arg C hX hbl hbA hS 1 (by omega) hL (lv_at hl 0 rfl) (lv_at hl 5 rfl) (by decide) dL_law_1630 dL_law_1631 dL_law_1633 dL_law_1634 dL_law_1635 ?_
  refine lv_aload_n hx hb dL_law_1636 rfl (lv_at hl 3 rfl) ?_
  refine g_cxi (vx_runSX (hh := [(0, 9, 12, 13)]) (As := [.ref (ad G 715), .int (xs (4 * n + 1)), .ref (ad G 735)]) (rest := []) C.1 (hL_ladleTemperature l G X (xs (4 * n + 1)) hM hmem) (vx_cwSW 3 C.1.2.2.2.2 (gSW0 qw_1186 qw_1187 qw_70 lW_ladleTemperature) rfl rfl rfl (by decide +kernel) ⟨by show f + 1 + 1 ≤ 2048; omega, by show 8 + (4 + 11) + (n1 + 21) ≤ 94400; omega⟩) (g_pre C hW hS [.ref (ad G 715), .int (xs (4 * n + 1)), .ref (ad G 735)]) rfl rfl hl.1 rfl (lv_room (Nat.le_of_ble_eq_true rfl)) dL_law_1637 ⟨hc, hs⟩) hS (fun _ _ _ _ _ _ _ _ h => h.elim) ?_
  intro k9 Y H1 locs1 hW1 hS1 hp
  refine lv_istore hx hb dL_law_1640 hl (by decide) rfl (fun ls1 hl1 => ?_)
  replace hl1 : lv_has ls1 10 [(6, .int k9), (0, .ref b), (1, .ref (ad G 715)), (2, .ref (ad G 723)), (3, .ref (ad G 735)), (4, .ref (ad G 736)), (5, .int (nI (4 * n)))] := hl1
  refine lv_aload_n hx hb dL_law_1642 rfl (lv_at hl1 3 rfl) ?_
  refine lw_arg C hX hbl hbA hS1 1 (by omega) hL (lv_at hl1 1 rfl) (lv_at hl1 6 rfl) (by decide) dL_law_1643 dL_law_1644 dL_law_1646 dL_law_1647 dL_law_1648 ?_
  refine g_calli (va_runV (As := [.int (xs (4 * n + 1))]) (rest := []) C.1 (hM2 k9 Y hp) (cwV 1 C.1.2.2.2.2 (gV0 qw_1766 qw_1767 qw_1768 qw_81 qw_1769) rfl rfl rfl (by decide +kernel) ⟨by show f2 + 1 ≤ 2048; omega, by show 8 + (2 + 11) + n2 ≤ 94400; omega⟩) (g_rModel C hW1 hS1 [.int (xs (4 * n + 1))]) rfl rfl hl1.1 rfl (lv_room (Nat.le_of_ble_eq_true rfl)) dL_law_1649 ⟨hc, hs⟩) hS1 (fun r Z H2 locs2 hW2 hS2 hp2 => ?_)
  refine lv_istore hx hb dL_law_1652 hl1 (by decide) rfl (fun ls2 hl2 => ?_)
  replace hl2 : lv_has ls2 10 [(7, .int r), (6, .int k9), (0, .ref b), (1, .ref (ad G 715)), (2, .ref (ad G 723)), (3, .ref (ad G 735)), (4, .ref (ad G 736)), (5, .int (nI (4 * n)))] := hl2
  obtain ⟨hs1, hs2⟩ := hstep k9 Y hp r Z hp2
  exact lw_cmp C hW2 hS2 hl2.1 (lv_at hl2 4 rfl) (lv_at hl2 5 rfl) (lv_at hl2 1 rfl) (lv_at hl2 0 rfl) hs1 hs2 hc hs dL_law_1654 dL_law_1655 dL_law_1658 dL_law_1660 dL_law_1665 dL_law_1667 dL_law_1670 dL_law_1671 dL_law_1672 dL_law_1673 dL_law_1675 dL_law_1676 dL_law_1677 dL_law_1682 (by decide) (fun H3 locs3 h1 h2 => kk k9 Y hp r Z hp2 H3 locs3 ls2 h1 h2 hl2)
theorem lW_pouringMinutes : Cond.codeWith yL_pouringMinutes cL_pouringMinutes 4 (some .int) [(0, 9, 12, 13), (0, 9, 15, 27)] ∈ lw_all := lw_mem 1195 (by decide +kernel) (by decide +kernel)
set_option maxHeartbeats 2000000 in
theorem lC_pouringMinutes (C : Cx p m c cL_law 10 s args lw_all "FoundryLaw" G) (hX : va_X b L xs s s.heap) (hbl : b < s.heap.size) (hbA : ¬ Ab G b) (hS : va_S (Ab G) s.heap H locs) (hW : Wd G X H) {n : Nat} (hj : 4 * n + 3 < L) (hL : L < 2 ^ 31) (hl : lv_has ls 10 [(0, .ref b), (1, .ref (ad G 715)), (2, .ref (ad G 723)), (3, .ref (ad G 735)), (4, .ref (ad G 736)), (5, .int (nI (4 * n)))])
    {k f n1 f2 n2 : Nat} {post : Int32 → St → Prop} {postx : String → St → Prop} {post2 : St → Int32 → St → Prop} (hf : f ≤ 2000) (hn : n1 ≤ 94000) (hf2 : f2 ≤ 2000) (hn2 : n2 ≤ 94000) (hc : cells + k ≤ 714529) (hs : slots + 6 * k ≤ 6893124)
    (hM : MetXI l G k yX7_pouringMinutes (wsG yX7_pouringMinutes cX7_pouringMinutes 3 (some .int)) (rmk k f n1) [.ref (ad G 715), .int (xs (4 * n + 1))] X post postx) (hmem : ∀ (E : String) (Y : St), postx E Y → E ∈ ["java/lang/IndexOutOfBoundsException", "java/util/NoSuchElementException"])
    (hM2 : ∀ (k9 : Int32) (Y : St), lpost ["java/lang/IndexOutOfBoundsException", "java/util/NoSuchElementException"] id post postx k9 Y → MetI l G yX8_pouringMinutes (wsG yX8_pouringMinutes cX8_pouringMinutes 2 (some .int)) (rmz f2 n2) [.ref (ad G 723), .int (xs (4 * n + 1))] Y (post2 Y))
    (hstep : ∀ (k9 : Int32) (Y : St), lpost ["java/lang/IndexOutOfBoundsException", "java/util/NoSuchElementException"] id post postx k9 Y → ∀ (r : Int32) (Z : St), post2 Y r Z → Z.1 15 0 = k9 ∧ (k9 = 0 → Z.1 27 0 = r))
    (kk : ∀ (k9 : Int32) (Y : St), lpost ["java/lang/IndexOutOfBoundsException", "java/util/NoSuchElementException"] id post postx k9 Y → ∀ (r : Int32) (Z : St), post2 Y r Z → ∀ (H1 : Heap) (locs1 : List Loc) (ls1 : Array Slot), Wd G Z H1 → va_S (Ab G) s.heap H1 locs1 → lv_has ls1 10 [(7, .int r), (6, .int k9), (0, .ref b), (1, .ref (ad G 715)), (2, .ref (ad G 723)), (3, .ref (ad G 735)), (4, .ref (ad G 736)), (5, .int (nI (4 * n)))] → W p l e room_1 s m args below meth c H1 locs1 (cells + k) (slots + 6 * k) Q (F0 m 2989 ls1 [])) : W p l e room_1 s m args below meth c H locs cells slots Q (F0 m 1685 ls []) := by
  have hx := C.1.1
  have hb := C.1.2.1
  refine lv_aload_n hx hb dL_law_1685 rfl (lv_at hl 1 rfl) ?_
  refine lw_arg C hX hbl hbA hS 1 (by omega) hL (lv_at hl 0 rfl) (lv_at hl 5 rfl) (by decide) dL_law_1686 dL_law_1687 dL_law_1689 dL_law_1690 dL_law_1691 ?_
  refine lv_aload_n hx hb dL_law_1692 rfl (lv_at hl 3 rfl) ?_
  refine g_cxi (vx_runSX (hh := [(0, 9, 12, 13), (0, 9, 15, 27)]) (As := [.ref (ad G 715), .int (xs (4 * n + 1)), .ref (ad G 735)]) (rest := []) C.1 (hL_pouringMinutes l G X (xs (4 * n + 1)) hM hmem) (vx_cwSW 3 C.1.2.2.2.2 (gSW0 qw_1193 qw_1194 qw_70 lW_pouringMinutes) rfl rfl rfl (by decide +kernel) ⟨by show f + 1 + 1 ≤ 2048; omega, by show 8 + (4 + 11) + (n1 + 22) ≤ 94400; omega⟩) (g_pre C hW hS [.ref (ad G 715), .int (xs (4 * n + 1)), .ref (ad G 735)]) rfl rfl hl.1 rfl (lv_room (Nat.le_of_ble_eq_true rfl)) dL_law_1693 ⟨hc, hs⟩) hS (fun _ _ _ _ _ _ _ _ h => h.elim) ?_
  intro k9 Y H1 locs1 hW1 hS1 hp
  refine lv_istore hx hb dL_law_1696 hl (by decide) rfl (fun ls1 hl1 => ?_)
  replace hl1 : lv_has ls1 10 [(6, .int k9), (0, .ref b), (1, .ref (ad G 715)), (2, .ref (ad G 723)), (3, .ref (ad G 735)), (4, .ref (ad G 736)), (5, .int (nI (4 * n)))] := hl1
  refine lv_aload_n hx hb dL_law_1698 rfl (lv_at hl1 3 rfl) ?_
  refine lw_arg C hX hbl hbA hS1 1 (by omega) hL (lv_at hl1 1 rfl) (lv_at hl1 6 rfl) (by decide) dL_law_1699 dL_law_1700 dL_law_1702 dL_law_1703 dL_law_1704 ?_
  refine g_calli (va_runV (As := [.int (xs (4 * n + 1))]) (rest := []) C.1 (hM2 k9 Y hp) (cwV 1 C.1.2.2.2.2 (gV0 qw_1770 qw_1771 qw_1772 qw_81 qw_1773) rfl rfl rfl (by decide +kernel) ⟨by show f2 + 1 ≤ 2048; omega, by show 8 + (2 + 11) + n2 ≤ 94400; omega⟩) (g_rModel C hW1 hS1 [.int (xs (4 * n + 1))]) rfl rfl hl1.1 rfl (lv_room (Nat.le_of_ble_eq_true rfl)) dL_law_1705 ⟨hc, hs⟩) hS1 (fun r Z H2 locs2 hW2 hS2 hp2 => ?_)
  refine lv_istore hx hb dL_law_1708 hl1 (by decide) rfl (fun ls2 hl2 => ?_)
  replace hl2 : lv_has ls2 10 [(7, .int r), (6, .int k9), (0, .ref b), (1, .ref (ad G 715)), (2, .ref (ad G 723)), (3, .ref (ad G 735)), (4, .ref (ad G 736)), (5, .int (nI (4 * n)))] := hl2
  obtain ⟨hs1, hs2⟩ := hstep k9 Y hp r Z hp2
  exact lw_cmp C hW2 hS2 hl2.1 (lv_at hl2 4 rfl) (lv_at hl2 5 rfl) (lv_at hl2 1 rfl) (lv_at hl2 0 rfl) hs1 hs2 hc hs dL_law_1710 dL_law_1711 dL_law_1714 dL_law_1716 dL_law_1721 dL_law_1723 dL_law_1726 dL_law_1727 dL_law_1728 dL_law_1729 dL_law_1731 dL_law_1732 dL_law_1733 dL_law_1738 (by decide) (fun H3 locs3 h1 h2 => kk k9 Y hp r Z hp2 H3 locs3 ls2 h1 h2 hl2)
theorem lW_volume : Cond.codeWith yL_volume cL_volume 4 (some .int) [(0, 9, 12, 13)] ∈ lw_all := lw_mem 1202 (by decide +kernel) (by decide +kernel)
set_option maxHeartbeats 2000000 in
theorem lC_volume (C : Cx p m c cL_law 10 s args lw_all "FoundryLaw" G) (hX : va_X b L xs s s.heap) (hbl : b < s.heap.size) (hbA : ¬ Ab G b) (hS : va_S (Ab G) s.heap H locs) (hW : Wd G X H) {n : Nat} (hj : 4 * n + 3 < L) (hL : L < 2 ^ 31) (hl : lv_has ls 10 [(0, .ref b), (1, .ref (ad G 715)), (2, .ref (ad G 723)), (3, .ref (ad G 735)), (4, .ref (ad G 736)), (5, .int (nI (4 * n)))])
    {k f n1 f2 n2 : Nat} {post : Int32 → St → Prop} {postx : String → St → Prop} {post2 : St → Int32 → St → Prop} (hf : f ≤ 2000) (hn : n1 ≤ 94000) (hf2 : f2 ≤ 2000) (hn2 : n2 ≤ 94000) (hc : cells + k ≤ 714529) (hs : slots + 6 * k ≤ 6893124)
    (hM : MetXI l G k yX7_volume (wsG yX7_volume cX7_volume 2 (some .int)) (rmk k f n1) [.ref (ad G 715), .int (xs (4 * n + 1))] X post postx) (hmem : ∀ (E : String) (Y : St), postx E Y → E ∈ ["java/lang/IndexOutOfBoundsException"])
    (hM2 : ∀ (k9 : Int32) (Y : St), lpost ["java/lang/IndexOutOfBoundsException"] id post postx k9 Y → MetI l G yX8_volume (wsG yX8_volume cX8_volume 2 (some .int)) (rmz f2 n2) [.ref (ad G 723), .int (xs (4 * n + 1))] Y (post2 Y))
    (hstep : ∀ (k9 : Int32) (Y : St), lpost ["java/lang/IndexOutOfBoundsException"] id post postx k9 Y → ∀ (r : Int32) (Z : St), post2 Y r Z → Z.1 15 0 = k9 ∧ (k9 = 0 → Z.1 27 0 = r))
    (kk : ∀ (k9 : Int32) (Y : St), lpost ["java/lang/IndexOutOfBoundsException"] id post postx k9 Y → ∀ (r : Int32) (Z : St), post2 Y r Z → ∀ (H1 : Heap) (locs1 : List Loc) (ls1 : Array Slot), Wd G Z H1 → va_S (Ab G) s.heap H1 locs1 → lv_has ls1 10 [(7, .int r), (6, .int k9), (0, .ref b), (1, .ref (ad G 715)), (2, .ref (ad G 723)), (3, .ref (ad G 735)), (4, .ref (ad G 736)), (5, .int (nI (4 * n)))] → W p l e room_1 s m args below meth c H1 locs1 (cells + k) (slots + 6 * k) Q (F0 m 2989 ls1 [])) : W p l e room_1 s m args below meth c H locs cells slots Q (F0 m 1754 ls []) := by
  have hx := C.1.1
  have hb := C.1.2.1
  refine lv_aload_n hx hb dL_law_1754 rfl (lv_at hl 1 rfl) ?_
  refine lw_arg C hX hbl hbA hS 1 (by omega) hL (lv_at hl 0 rfl) (lv_at hl 5 rfl) (by decide) dL_law_1755 dL_law_1756 dL_law_1758 dL_law_1759 dL_law_1760 ?_
  refine lv_aload_n hx hb dL_law_1761 rfl (lv_at hl 3 rfl) ?_
  refine g_cxi (vx_runSX (hh := [(0, 9, 12, 13)]) (As := [.ref (ad G 715), .int (xs (4 * n + 1)), .ref (ad G 735)]) (rest := []) C.1 (hL_volume l G X (xs (4 * n + 1)) hM hmem) (vx_cwSW 3 C.1.2.2.2.2 (gSW0 qw_1200 qw_1201 qw_70 lW_volume) rfl rfl rfl (by decide +kernel) ⟨by show f + 1 + 1 ≤ 2048; omega, by show 8 + (4 + 11) + (n1 + 21) ≤ 94400; omega⟩) (g_pre C hW hS [.ref (ad G 715), .int (xs (4 * n + 1)), .ref (ad G 735)]) rfl rfl hl.1 rfl (lv_room (Nat.le_of_ble_eq_true rfl)) dL_law_1762 ⟨hc, hs⟩) hS (fun _ _ _ _ _ _ _ _ h => h.elim) ?_
  intro k9 Y H1 locs1 hW1 hS1 hp
  refine lv_istore hx hb dL_law_1765 hl (by decide) rfl (fun ls1 hl1 => ?_)
  replace hl1 : lv_has ls1 10 [(6, .int k9), (0, .ref b), (1, .ref (ad G 715)), (2, .ref (ad G 723)), (3, .ref (ad G 735)), (4, .ref (ad G 736)), (5, .int (nI (4 * n)))] := hl1
  refine lv_aload_n hx hb dL_law_1767 rfl (lv_at hl1 3 rfl) ?_
  refine lw_arg C hX hbl hbA hS1 1 (by omega) hL (lv_at hl1 1 rfl) (lv_at hl1 6 rfl) (by decide) dL_law_1768 dL_law_1769 dL_law_1771 dL_law_1772 dL_law_1773 ?_
  refine g_calli (va_runV (As := [.int (xs (4 * n + 1))]) (rest := []) C.1 (hM2 k9 Y hp) (cwV 1 C.1.2.2.2.2 (gV0 qw_1778 qw_1779 qw_1780 qw_81 qw_1781) rfl rfl rfl (by decide +kernel) ⟨by show f2 + 1 ≤ 2048; omega, by show 8 + (2 + 11) + n2 ≤ 94400; omega⟩) (g_rModel C hW1 hS1 [.int (xs (4 * n + 1))]) rfl rfl hl1.1 rfl (lv_room (Nat.le_of_ble_eq_true rfl)) dL_law_1774 ⟨hc, hs⟩) hS1 (fun r Z H2 locs2 hW2 hS2 hp2 => ?_)
  refine lv_istore hx hb dL_law_1777 hl1 (by decide) rfl (fun ls2 hl2 => ?_)
  replace hl2 : lv_has ls2 10 [(7, .int r), (6, .int k9), (0, .ref b), (1, .ref (ad G 715)), (2, .ref (ad G 723)), (3, .ref (ad G 735)), (4, .ref (ad G 736)), (5, .int (nI (4 * n)))] := hl2
  obtain ⟨hs1, hs2⟩ := hstep k9 Y hp r Z hp2
  exact lw_cmp C hW2 hS2 hl2.1 (lv_at hl2 4 rfl) (lv_at hl2 5 rfl) (lv_at hl2 1 rfl) (lv_at hl2 0 rfl) hs1 hs2 hc hs dL_law_1779 dL_law_1780 dL_law_1783 dL_law_1785 dL_law_1790 dL_law_1792 dL_law_1795 dL_law_1796 dL_law_1797 dL_law_1798 dL_law_1800 dL_law_1801 dL_law_1802 dL_law_1807 (by decide) (fun H3 locs3 h1 h2 => kk k9 Y hp r Z hp2 H3 locs3 ls2 h1 h2 hl2)
theorem lW_mouldMass : Cond.codeWith yL_mouldMass cL_mouldMass 5 (some .int) [(0, 10, 13, 13), (0, 10, 17, 15)] ∈ lw_all := lw_mem 1216 (by decide +kernel) (by decide +kernel)
set_option maxHeartbeats 2000000 in
theorem lC_mouldMass (C : Cx p m c cL_law 10 s args lw_all "FoundryLaw" G) (hX : va_X b L xs s s.heap) (hbl : b < s.heap.size) (hbA : ¬ Ab G b) (hS : va_S (Ab G) s.heap H locs) (hW : Wd G X H) {n : Nat} (hj : 4 * n + 3 < L) (hL : L < 2 ^ 31) (hl : lv_has ls 10 [(0, .ref b), (1, .ref (ad G 715)), (2, .ref (ad G 723)), (3, .ref (ad G 735)), (4, .ref (ad G 736)), (5, .int (nI (4 * n)))])
    {k f n1 f2 n2 : Nat} {post : Int32 → St → Prop} {postx : String → St → Prop} {post2 : St → Int32 → St → Prop} (hf : f ≤ 2000) (hn : n1 ≤ 94000) (hf2 : f2 ≤ 2000) (hn2 : n2 ≤ 94000) (hc : cells + k ≤ 714529) (hs : slots + 6 * k ≤ 6893124)
    (hM : MetXI l G k yX7_mouldMass (wsG yX7_mouldMass cX7_mouldMass 3 (some .int)) (rmk k f n1) [.ref (ad G 715), .int (xs (4 * n + 1)), .int (((xs (4 * n + 2)).toUInt32 % 65536).toInt32)] X post postx) (hmem : ∀ (E : String) (Y : St), postx E Y → E ∈ ["java/lang/IndexOutOfBoundsException", "java/lang/IllegalArgumentException"])
    (hM2 : ∀ (k9 : Int32) (Y : St), lpost ["java/lang/IndexOutOfBoundsException", "java/lang/IllegalArgumentException"] id post postx k9 Y → MetI l G yX8_mouldMass (wsG yX8_mouldMass cX8_mouldMass 3 (some .int)) (rmz f2 n2) [.ref (ad G 723), .int (xs (4 * n + 1)), .int (((xs (4 * n + 2)).toUInt32 % 65536).toInt32)] Y (post2 Y))
    (hstep : ∀ (k9 : Int32) (Y : St), lpost ["java/lang/IndexOutOfBoundsException", "java/lang/IllegalArgumentException"] id post postx k9 Y → ∀ (r : Int32) (Z : St), post2 Y r Z → Z.1 15 0 = k9 ∧ (k9 = 0 → Z.1 27 0 = r))
    (kk : ∀ (k9 : Int32) (Y : St), lpost ["java/lang/IndexOutOfBoundsException", "java/lang/IllegalArgumentException"] id post postx k9 Y → ∀ (r : Int32) (Z : St), post2 Y r Z → ∀ (H1 : Heap) (locs1 : List Loc) (ls1 : Array Slot), Wd G Z H1 → va_S (Ab G) s.heap H1 locs1 → lv_has ls1 10 [(7, .int r), (6, .int k9), (0, .ref b), (1, .ref (ad G 715)), (2, .ref (ad G 723)), (3, .ref (ad G 735)), (4, .ref (ad G 736)), (5, .int (nI (4 * n)))] → W p l e room_1 s m args below meth c H1 locs1 (cells + k) (slots + 6 * k) Q (F0 m 2989 ls1 [])) : W p l e room_1 s m args below meth c H locs cells slots Q (F0 m 1873 ls []) := by
  have hx := C.1.1
  have hb := C.1.2.1
  refine lv_aload_n hx hb dL_law_1873 rfl (lv_at hl 1 rfl) ?_
  refine lw_arg C hX hbl hbA hS 1 (by omega) hL (lv_at hl 0 rfl) (lv_at hl 5 rfl) (by decide) dL_law_1874 dL_law_1875 dL_law_1877 dL_law_1878 dL_law_1879 ?_
  refine lw_argc C hX hbl hbA hS 2 (by omega) hL (lv_at hl 0 rfl) (lv_at hl 5 rfl) (by decide) dL_law_1880 dL_law_1881 dL_law_1883 dL_law_1884 dL_law_1885 dL_law_1886 ?_
  refine lv_aload_n hx hb dL_law_1887 rfl (lv_at hl 3 rfl) ?_
  refine g_cxi (vx_runSX (hh := [(0, 10, 13, 13), (0, 10, 17, 15)]) (As := [.ref (ad G 715), .int (xs (4 * n + 1)), .int (((xs (4 * n + 2)).toUInt32 % 65536).toInt32), .ref (ad G 735)]) (rest := []) C.1 (hL_mouldMass l G X (xs (4 * n + 1)) (((xs (4 * n + 2)).toUInt32 % 65536).toInt32) hM hmem) (vx_cwSW 4 C.1.2.2.2.2 (gSW0 qw_1214 qw_1215 qw_70 lW_mouldMass) rfl rfl rfl (by decide +kernel) ⟨by show f + 1 + 1 ≤ 2048; omega, by show 8 + (5 + 11) + (n1 + 22) ≤ 94400; omega⟩) (g_pre C hW hS [.ref (ad G 715), .int (xs (4 * n + 1)), .int (((xs (4 * n + 2)).toUInt32 % 65536).toInt32), .ref (ad G 735)]) rfl rfl hl.1 rfl (lv_room (Nat.le_of_ble_eq_true rfl)) dL_law_1888 ⟨hc, hs⟩) hS (fun _ _ _ _ _ _ _ _ h => h.elim) ?_
  intro k9 Y H1 locs1 hW1 hS1 hp
  refine lv_istore hx hb dL_law_1891 hl (by decide) rfl (fun ls1 hl1 => ?_)
  replace hl1 : lv_has ls1 10 [(6, .int k9), (0, .ref b), (1, .ref (ad G 715)), (2, .ref (ad G 723)), (3, .ref (ad G 735)), (4, .ref (ad G 736)), (5, .int (nI (4 * n)))] := hl1
  refine lv_aload_n hx hb dL_law_1893 rfl (lv_at hl1 3 rfl) ?_
  refine lw_arg C hX hbl hbA hS1 1 (by omega) hL (lv_at hl1 1 rfl) (lv_at hl1 6 rfl) (by decide) dL_law_1894 dL_law_1895 dL_law_1897 dL_law_1898 dL_law_1899 ?_
  refine lw_argc C hX hbl hbA hS1 2 (by omega) hL (lv_at hl1 1 rfl) (lv_at hl1 6 rfl) (by decide) dL_law_1900 dL_law_1901 dL_law_1903 dL_law_1904 dL_law_1905 dL_law_1906 ?_
  refine g_calli (va_runV (As := [.int (xs (4 * n + 1)), .int (((xs (4 * n + 2)).toUInt32 % 65536).toInt32)]) (rest := []) C.1 (hM2 k9 Y hp) (cwV 2 C.1.2.2.2.2 (gV0 qw_1786 qw_1787 qw_1788 qw_81 qw_1789) rfl rfl rfl (by decide +kernel) ⟨by show f2 + 1 ≤ 2048; omega, by show 8 + (3 + 11) + n2 ≤ 94400; omega⟩) (g_rModel C hW1 hS1 [.int (xs (4 * n + 1)), .int (((xs (4 * n + 2)).toUInt32 % 65536).toInt32)]) rfl rfl hl1.1 rfl (lv_room (Nat.le_of_ble_eq_true rfl)) dL_law_1907 ⟨hc, hs⟩) hS1 (fun r Z H2 locs2 hW2 hS2 hp2 => ?_)
  refine lv_istore hx hb dL_law_1910 hl1 (by decide) rfl (fun ls2 hl2 => ?_)
  replace hl2 : lv_has ls2 10 [(7, .int r), (6, .int k9), (0, .ref b), (1, .ref (ad G 715)), (2, .ref (ad G 723)), (3, .ref (ad G 735)), (4, .ref (ad G 736)), (5, .int (nI (4 * n)))] := hl2
  obtain ⟨hs1, hs2⟩ := hstep k9 Y hp r Z hp2
  exact lw_cmp C hW2 hS2 hl2.1 (lv_at hl2 4 rfl) (lv_at hl2 5 rfl) (lv_at hl2 1 rfl) (lv_at hl2 0 rfl) hs1 hs2 hc hs dL_law_1912 dL_law_1913 dL_law_1916 dL_law_1918 dL_law_1923 dL_law_1925 dL_law_1928 dL_law_1929 dL_law_1930 dL_law_1931 dL_law_1933 dL_law_1934 dL_law_1935 dL_law_1940 (by decide) (fun H3 locs3 h1 h2 => kk k9 Y hp r Z hp2 H3 locs3 ls2 h1 h2 hl2)
theorem lW_ingotMass : Cond.codeWith yL_ingotMass cL_ingotMass 5 (some .int) [(0, 10, 13, 13), (0, 10, 17, 15)] ∈ lw_all := lw_mem 1223 (by decide +kernel) (by decide +kernel)
set_option maxHeartbeats 2000000 in
theorem lC_ingotMass (C : Cx p m c cL_law 10 s args lw_all "FoundryLaw" G) (hX : va_X b L xs s s.heap) (hbl : b < s.heap.size) (hbA : ¬ Ab G b) (hS : va_S (Ab G) s.heap H locs) (hW : Wd G X H) {n : Nat} (hj : 4 * n + 3 < L) (hL : L < 2 ^ 31) (hl : lv_has ls 10 [(0, .ref b), (1, .ref (ad G 715)), (2, .ref (ad G 723)), (3, .ref (ad G 735)), (4, .ref (ad G 736)), (5, .int (nI (4 * n)))])
    {k f n1 f2 n2 : Nat} {post : Int32 → St → Prop} {postx : String → St → Prop} {post2 : St → Int32 → St → Prop} (hf : f ≤ 2000) (hn : n1 ≤ 94000) (hf2 : f2 ≤ 2000) (hn2 : n2 ≤ 94000) (hc : cells + k ≤ 714529) (hs : slots + 6 * k ≤ 6893124)
    (hM : MetXI l G k yX7_ingotMass (wsG yX7_ingotMass cX7_ingotMass 3 (some .int)) (rmk k f n1) [.ref (ad G 715), .int (xs (4 * n + 1)), .int (((xs (4 * n + 2)).toUInt32 % 65536).toInt32)] X post postx) (hmem : ∀ (E : String) (Y : St), postx E Y → E ∈ ["java/lang/IndexOutOfBoundsException", "java/lang/IllegalArgumentException"])
    (hM2 : ∀ (k9 : Int32) (Y : St), lpost ["java/lang/IndexOutOfBoundsException", "java/lang/IllegalArgumentException"] id post postx k9 Y → MetI l G yX8_ingotMass (wsG yX8_ingotMass cX8_ingotMass 3 (some .int)) (rmz f2 n2) [.ref (ad G 723), .int (xs (4 * n + 1)), .int (((xs (4 * n + 2)).toUInt32 % 65536).toInt32)] Y (post2 Y))
    (hstep : ∀ (k9 : Int32) (Y : St), lpost ["java/lang/IndexOutOfBoundsException", "java/lang/IllegalArgumentException"] id post postx k9 Y → ∀ (r : Int32) (Z : St), post2 Y r Z → Z.1 15 0 = k9 ∧ (k9 = 0 → Z.1 27 0 = r))
    (kk : ∀ (k9 : Int32) (Y : St), lpost ["java/lang/IndexOutOfBoundsException", "java/lang/IllegalArgumentException"] id post postx k9 Y → ∀ (r : Int32) (Z : St), post2 Y r Z → ∀ (H1 : Heap) (locs1 : List Loc) (ls1 : Array Slot), Wd G Z H1 → va_S (Ab G) s.heap H1 locs1 → lv_has ls1 10 [(7, .int r), (6, .int k9), (0, .ref b), (1, .ref (ad G 715)), (2, .ref (ad G 723)), (3, .ref (ad G 735)), (4, .ref (ad G 736)), (5, .int (nI (4 * n)))] → W p l e room_1 s m args below meth c H1 locs1 (cells + k) (slots + 6 * k) Q (F0 m 2989 ls1 [])) : W p l e room_1 s m args below meth c H locs cells slots Q (F0 m 1956 ls []) := by
  have hx := C.1.1
  have hb := C.1.2.1
  refine lv_aload_n hx hb dL_law_1956 rfl (lv_at hl 1 rfl) ?_
  refine lw_arg C hX hbl hbA hS 1 (by omega) hL (lv_at hl 0 rfl) (lv_at hl 5 rfl) (by decide) dL_law_1957 dL_law_1958 dL_law_1960 dL_law_1961 dL_law_1962 ?_
  refine lw_argc C hX hbl hbA hS 2 (by omega) hL (lv_at hl 0 rfl) (lv_at hl 5 rfl) (by decide) dL_law_1963 dL_law_1964 dL_law_1966 dL_law_1967 dL_law_1968 dL_law_1969 ?_
  refine lv_aload_n hx hb dL_law_1970 rfl (lv_at hl 3 rfl) ?_
  refine g_cxi (vx_runSX (hh := [(0, 10, 13, 13), (0, 10, 17, 15)]) (As := [.ref (ad G 715), .int (xs (4 * n + 1)), .int (((xs (4 * n + 2)).toUInt32 % 65536).toInt32), .ref (ad G 735)]) (rest := []) C.1 (hL_ingotMass l G X (xs (4 * n + 1)) (((xs (4 * n + 2)).toUInt32 % 65536).toInt32) hM hmem) (vx_cwSW 4 C.1.2.2.2.2 (gSW0 qw_1221 qw_1222 qw_70 lW_ingotMass) rfl rfl rfl (by decide +kernel) ⟨by show f + 1 + 1 ≤ 2048; omega, by show 8 + (5 + 11) + (n1 + 22) ≤ 94400; omega⟩) (g_pre C hW hS [.ref (ad G 715), .int (xs (4 * n + 1)), .int (((xs (4 * n + 2)).toUInt32 % 65536).toInt32), .ref (ad G 735)]) rfl rfl hl.1 rfl (lv_room (Nat.le_of_ble_eq_true rfl)) dL_law_1971 ⟨hc, hs⟩) hS (fun _ _ _ _ _ _ _ _ h => h.elim) ?_
  intro k9 Y H1 locs1 hW1 hS1 hp
  refine lv_istore hx hb dL_law_1974 hl (by decide) rfl (fun ls1 hl1 => ?_)
  replace hl1 : lv_has ls1 10 [(6, .int k9), (0, .ref b), (1, .ref (ad G 715)), (2, .ref (ad G 723)), (3, .ref (ad G 735)), (4, .ref (ad G 736)), (5, .int (nI (4 * n)))] := hl1
  refine lv_aload_n hx hb dL_law_1976 rfl (lv_at hl1 3 rfl) ?_
  refine lw_arg C hX hbl hbA hS1 1 (by omega) hL (lv_at hl1 1 rfl) (lv_at hl1 6 rfl) (by decide) dL_law_1977 dL_law_1978 dL_law_1980 dL_law_1981 dL_law_1982 ?_
  refine lw_argc C hX hbl hbA hS1 2 (by omega) hL (lv_at hl1 1 rfl) (lv_at hl1 6 rfl) (by decide) dL_law_1983 dL_law_1984 dL_law_1986 dL_law_1987 dL_law_1988 dL_law_1989 ?_
  refine g_calli (va_runV (As := [.int (xs (4 * n + 1)), .int (((xs (4 * n + 2)).toUInt32 % 65536).toInt32)]) (rest := []) C.1 (hM2 k9 Y hp) (cwV 2 C.1.2.2.2.2 (gV0 qw_1794 qw_1795 qw_1796 qw_81 qw_1797) rfl rfl rfl (by decide +kernel) ⟨by show f2 + 1 ≤ 2048; omega, by show 8 + (3 + 11) + n2 ≤ 94400; omega⟩) (g_rModel C hW1 hS1 [.int (xs (4 * n + 1)), .int (((xs (4 * n + 2)).toUInt32 % 65536).toInt32)]) rfl rfl hl1.1 rfl (lv_room (Nat.le_of_ble_eq_true rfl)) dL_law_1990 ⟨hc, hs⟩) hS1 (fun r Z H2 locs2 hW2 hS2 hp2 => ?_)
  refine lv_istore hx hb dL_law_1993 hl1 (by decide) rfl (fun ls2 hl2 => ?_)
  replace hl2 : lv_has ls2 10 [(7, .int r), (6, .int k9), (0, .ref b), (1, .ref (ad G 715)), (2, .ref (ad G 723)), (3, .ref (ad G 735)), (4, .ref (ad G 736)), (5, .int (nI (4 * n)))] := hl2
  obtain ⟨hs1, hs2⟩ := hstep k9 Y hp r Z hp2
  exact lw_cmp C hW2 hS2 hl2.1 (lv_at hl2 4 rfl) (lv_at hl2 5 rfl) (lv_at hl2 1 rfl) (lv_at hl2 0 rfl) hs1 hs2 hc hs dL_law_1995 dL_law_1996 dL_law_1999 dL_law_2001 dL_law_2006 dL_law_2008 dL_law_2011 dL_law_2012 dL_law_2013 dL_law_2014 dL_law_2016 dL_law_2017 dL_law_2018 dL_law_2023 (by decide) (fun H3 locs3 h1 h2 => kk k9 Y hp r Z hp2 H3 locs3 ls2 h1 h2 hl2)
theorem lW_share : Cond.codeWith yL_share cL_share 5 (some .int) [(0, 10, 13, 13), (0, 10, 17, 15)] ∈ lw_all := lw_mem 1230 (by decide +kernel) (by decide +kernel)
set_option maxHeartbeats 2000000 in
theorem lC_share (C : Cx p m c cL_law 10 s args lw_all "FoundryLaw" G) (hX : va_X b L xs s s.heap) (hbl : b < s.heap.size) (hbA : ¬ Ab G b) (hS : va_S (Ab G) s.heap H locs) (hW : Wd G X H) {n : Nat} (hj : 4 * n + 3 < L) (hL : L < 2 ^ 31) (hl : lv_has ls 10 [(0, .ref b), (1, .ref (ad G 715)), (2, .ref (ad G 723)), (3, .ref (ad G 735)), (4, .ref (ad G 736)), (5, .int (nI (4 * n)))])
    {k f n1 f2 n2 : Nat} {post : Int32 → St → Prop} {postx : String → St → Prop} {post2 : St → Int32 → St → Prop} (hf : f ≤ 2000) (hn : n1 ≤ 94000) (hf2 : f2 ≤ 2000) (hn2 : n2 ≤ 94000) (hc : cells + k ≤ 714529) (hs : slots + 6 * k ≤ 6893124)
    (hM : MetXI l G k yX7_share (wsG yX7_share cX7_share 3 (some .int)) (rmk k f n1) [.ref (ad G 715), .int (xs (4 * n + 1)), .int (((xs (4 * n + 2)).toUInt32 % 65536).toInt32)] X post postx) (hmem : ∀ (E : String) (Y : St), postx E Y → E ∈ ["java/lang/IndexOutOfBoundsException", "java/lang/IllegalArgumentException"])
    (hM2 : ∀ (k9 : Int32) (Y : St), lpost ["java/lang/IndexOutOfBoundsException", "java/lang/IllegalArgumentException"] id post postx k9 Y → MetI l G yX8_share (wsG yX8_share cX8_share 3 (some .int)) (rmz f2 n2) [.ref (ad G 723), .int (xs (4 * n + 1)), .int (((xs (4 * n + 2)).toUInt32 % 65536).toInt32)] Y (post2 Y))
    (hstep : ∀ (k9 : Int32) (Y : St), lpost ["java/lang/IndexOutOfBoundsException", "java/lang/IllegalArgumentException"] id post postx k9 Y → ∀ (r : Int32) (Z : St), post2 Y r Z → Z.1 15 0 = k9 ∧ (k9 = 0 → Z.1 27 0 = r))
    (kk : ∀ (k9 : Int32) (Y : St), lpost ["java/lang/IndexOutOfBoundsException", "java/lang/IllegalArgumentException"] id post postx k9 Y → ∀ (r : Int32) (Z : St), post2 Y r Z → ∀ (H1 : Heap) (locs1 : List Loc) (ls1 : Array Slot), Wd G Z H1 → va_S (Ab G) s.heap H1 locs1 → lv_has ls1 10 [(7, .int r), (6, .int k9), (0, .ref b), (1, .ref (ad G 715)), (2, .ref (ad G 723)), (3, .ref (ad G 735)), (4, .ref (ad G 736)), (5, .int (nI (4 * n)))] → W p l e room_1 s m args below meth c H1 locs1 (cells + k) (slots + 6 * k) Q (F0 m 2989 ls1 [])) : W p l e room_1 s m args below meth c H locs cells slots Q (F0 m 2026 ls []) := by
  have hx := C.1.1
  have hb := C.1.2.1
  refine lv_aload_n hx hb dL_law_2026 rfl (lv_at hl 1 rfl) ?_
  refine lw_arg C hX hbl hbA hS 1 (by omega) hL (lv_at hl 0 rfl) (lv_at hl 5 rfl) (by decide) dL_law_2027 dL_law_2028 dL_law_2030 dL_law_2031 dL_law_2032 ?_
  refine lw_argc C hX hbl hbA hS 2 (by omega) hL (lv_at hl 0 rfl) (lv_at hl 5 rfl) (by decide) dL_law_2033 dL_law_2034 dL_law_2036 dL_law_2037 dL_law_2038 dL_law_2039 ?_
  refine lv_aload_n hx hb dL_law_2040 rfl (lv_at hl 3 rfl) ?_
  refine g_cxi (vx_runSX (hh := [(0, 10, 13, 13), (0, 10, 17, 15)]) (As := [.ref (ad G 715), .int (xs (4 * n + 1)), .int (((xs (4 * n + 2)).toUInt32 % 65536).toInt32), .ref (ad G 735)]) (rest := []) C.1 (hL_share l G X (xs (4 * n + 1)) (((xs (4 * n + 2)).toUInt32 % 65536).toInt32) hM hmem) (vx_cwSW 4 C.1.2.2.2.2 (gSW0 qw_1228 qw_1229 qw_70 lW_share) rfl rfl rfl (by decide +kernel) ⟨by show f + 1 + 1 ≤ 2048; omega, by show 8 + (5 + 11) + (n1 + 22) ≤ 94400; omega⟩) (g_pre C hW hS [.ref (ad G 715), .int (xs (4 * n + 1)), .int (((xs (4 * n + 2)).toUInt32 % 65536).toInt32), .ref (ad G 735)]) rfl rfl hl.1 rfl (lv_room (Nat.le_of_ble_eq_true rfl)) dL_law_2041 ⟨hc, hs⟩) hS (fun _ _ _ _ _ _ _ _ h => h.elim) ?_
  intro k9 Y H1 locs1 hW1 hS1 hp
  refine lv_istore hx hb dL_law_2044 hl (by decide) rfl (fun ls1 hl1 => ?_)
  replace hl1 : lv_has ls1 10 [(6, .int k9), (0, .ref b), (1, .ref (ad G 715)), (2, .ref (ad G 723)), (3, .ref (ad G 735)), (4, .ref (ad G 736)), (5, .int (nI (4 * n)))] := hl1
  refine lv_aload_n hx hb dL_law_2046 rfl (lv_at hl1 3 rfl) ?_
  refine lw_arg C hX hbl hbA hS1 1 (by omega) hL (lv_at hl1 1 rfl) (lv_at hl1 6 rfl) (by decide) dL_law_2047 dL_law_2048 dL_law_2050 dL_law_2051 dL_law_2052 ?_
  refine lw_argc C hX hbl hbA hS1 2 (by omega) hL (lv_at hl1 1 rfl) (lv_at hl1 6 rfl) (by decide) dL_law_2053 dL_law_2054 dL_law_2056 dL_law_2057 dL_law_2058 dL_law_2059 ?_
  refine g_calli (va_runV (As := [.int (xs (4 * n + 1)), .int (((xs (4 * n + 2)).toUInt32 % 65536).toInt32)]) (rest := []) C.1 (hM2 k9 Y hp) (cwV 2 C.1.2.2.2.2 (gV0 qw_1798 qw_1799 qw_1800 qw_81 qw_1801) rfl rfl rfl (by decide +kernel) ⟨by show f2 + 1 ≤ 2048; omega, by show 8 + (3 + 11) + n2 ≤ 94400; omega⟩) (g_rModel C hW1 hS1 [.int (xs (4 * n + 1)), .int (((xs (4 * n + 2)).toUInt32 % 65536).toInt32)]) rfl rfl hl1.1 rfl (lv_room (Nat.le_of_ble_eq_true rfl)) dL_law_2060 ⟨hc, hs⟩) hS1 (fun r Z H2 locs2 hW2 hS2 hp2 => ?_)
  refine lv_istore hx hb dL_law_2063 hl1 (by decide) rfl (fun ls2 hl2 => ?_)
  replace hl2 : lv_has ls2 10 [(7, .int r), (6, .int k9), (0, .ref b), (1, .ref (ad G 715)), (2, .ref (ad G 723)), (3, .ref (ad G 735)), (4, .ref (ad G 736)), (5, .int (nI (4 * n)))] := hl2
  obtain ⟨hs1, hs2⟩ := hstep k9 Y hp r Z hp2
  exact lw_cmp C hW2 hS2 hl2.1 (lv_at hl2 4 rfl) (lv_at hl2 5 rfl) (lv_at hl2 1 rfl) (lv_at hl2 0 rfl) hs1 hs2 hc hs dL_law_2065 dL_law_2066 dL_law_2069 dL_law_2071 dL_law_2076 dL_law_2078 dL_law_2081 dL_law_2082 dL_law_2083 dL_law_2084 dL_law_2086 dL_law_2087 dL_law_2088 dL_law_2093 (by decide) (fun H3 locs3 h1 h2 => kk k9 Y hp r Z hp2 H3 locs3 ls2 h1 h2 hl2)
theorem lW_grade : Cond.codeWith yL_grade cL_grade 4 (some .int) [(0, 9, 12, 13)] ∈ lw_all := lw_mem 1238 (by decide +kernel) (by decide +kernel)
set_option maxHeartbeats 2000000 in
theorem lC_grade (C : Cx p m c cL_law 10 s args lw_all "FoundryLaw" G) (hX : va_X b L xs s s.heap) (hbl : b < s.heap.size) (hbA : ¬ Ab G b) (hS : va_S (Ab G) s.heap H locs) (hW : Wd G X H) {n : Nat} (hj : 4 * n + 3 < L) (hL : L < 2 ^ 31) (hl : lv_has ls 10 [(0, .ref b), (1, .ref (ad G 715)), (2, .ref (ad G 723)), (3, .ref (ad G 735)), (4, .ref (ad G 736)), (5, .int (nI (4 * n)))])
    {k f n1 f2 n2 : Nat} {post : Int32 → St → Prop} {postx : String → St → Prop} {post2 : St → Int32 → St → Prop} (hf : f ≤ 2000) (hn : n1 ≤ 94000) (hf2 : f2 ≤ 2000) (hn2 : n2 ≤ 94000) (hc : cells + k ≤ 714529) (hs : slots + 6 * k ≤ 6893124)
    (hM : MetXI l G k yX7_grade (wsG yX7_grade cX7_grade 2 (some .char)) (rmk k f n1) [.ref (ad G 715), .int (xs (4 * n + 1))] X post postx) (hmem : ∀ (E : String) (Y : St), postx E Y → E ∈ ["java/lang/IndexOutOfBoundsException"])
    (hM2 : ∀ (k9 : Int32) (Y : St), lpost ["java/lang/IndexOutOfBoundsException"] id post postx k9 Y → MetI l G yX8_grade (wsG yX8_grade cX8_grade 2 (some .char)) (rmz f2 n2) [.ref (ad G 723), .int (xs (4 * n + 1))] Y (post2 Y))
    (hstep : ∀ (k9 : Int32) (Y : St), lpost ["java/lang/IndexOutOfBoundsException"] id post postx k9 Y → ∀ (r : Int32) (Z : St), post2 Y r Z → Z.1 15 0 = k9 ∧ (k9 = 0 → Z.1 27 0 = r))
    (kk : ∀ (k9 : Int32) (Y : St), lpost ["java/lang/IndexOutOfBoundsException"] id post postx k9 Y → ∀ (r : Int32) (Z : St), post2 Y r Z → ∀ (H1 : Heap) (locs1 : List Loc) (ls1 : Array Slot), Wd G Z H1 → va_S (Ab G) s.heap H1 locs1 → lv_has ls1 10 [(7, .int r), (6, .int k9), (0, .ref b), (1, .ref (ad G 715)), (2, .ref (ad G 723)), (3, .ref (ad G 735)), (4, .ref (ad G 736)), (5, .int (nI (4 * n)))] → W p l e room_1 s m args below meth c H1 locs1 (cells + k) (slots + 6 * k) Q (F0 m 2989 ls1 [])) : W p l e room_1 s m args below meth c H locs cells slots Q (F0 m 2096 ls []) := by
  have hx := C.1.1
  have hb := C.1.2.1
  refine lv_aload_n hx hb dL_law_2096 rfl (lv_at hl 1 rfl) ?_
  refine lw_arg C hX hbl hbA hS 1 (by omega) hL (lv_at hl 0 rfl) (lv_at hl 5 rfl) (by decide) dL_law_2097 dL_law_2098 dL_law_2100 dL_law_2101 dL_law_2102 ?_
  refine lv_aload_n hx hb dL_law_2103 rfl (lv_at hl 3 rfl) ?_
  refine g_cxi (vx_runSX (hh := [(0, 9, 12, 13)]) (As := [.ref (ad G 715), .int (xs (4 * n + 1)), .ref (ad G 735)]) (rest := []) C.1 (hL_grade l G X (xs (4 * n + 1)) hM hmem) (vx_cwSW 3 C.1.2.2.2.2 (gSW0 qw_1236 qw_1237 qw_70 lW_grade) rfl rfl rfl (by decide +kernel) ⟨by show f + 1 + 1 ≤ 2048; omega, by show 8 + (4 + 11) + (n1 + 21) ≤ 94400; omega⟩) (g_pre C hW hS [.ref (ad G 715), .int (xs (4 * n + 1)), .ref (ad G 735)]) rfl rfl hl.1 rfl (lv_room (Nat.le_of_ble_eq_true rfl)) dL_law_2104 ⟨hc, hs⟩) hS (fun _ _ _ _ _ _ _ _ h => h.elim) ?_
  intro k9 Y H1 locs1 hW1 hS1 hp
  refine lv_istore hx hb dL_law_2107 hl (by decide) rfl (fun ls1 hl1 => ?_)
  replace hl1 : lv_has ls1 10 [(6, .int k9), (0, .ref b), (1, .ref (ad G 715)), (2, .ref (ad G 723)), (3, .ref (ad G 735)), (4, .ref (ad G 736)), (5, .int (nI (4 * n)))] := hl1
  refine lv_aload_n hx hb dL_law_2109 rfl (lv_at hl1 3 rfl) ?_
  refine lw_arg C hX hbl hbA hS1 1 (by omega) hL (lv_at hl1 1 rfl) (lv_at hl1 6 rfl) (by decide) dL_law_2110 dL_law_2111 dL_law_2113 dL_law_2114 dL_law_2115 ?_
  refine g_calli (va_runV (As := [.int (xs (4 * n + 1))]) (rest := []) C.1 (hM2 k9 Y hp) (cwV 1 C.1.2.2.2.2 (gV0 qw_1806 qw_1807 qw_1808 qw_81 qw_1809) rfl rfl rfl (by decide +kernel) ⟨by show f2 + 1 ≤ 2048; omega, by show 8 + (2 + 11) + n2 ≤ 94400; omega⟩) (g_rModel C hW1 hS1 [.int (xs (4 * n + 1))]) rfl rfl hl1.1 rfl (lv_room (Nat.le_of_ble_eq_true rfl)) dL_law_2116 ⟨hc, hs⟩) hS1 (fun r Z H2 locs2 hW2 hS2 hp2 => ?_)
  refine lv_istore hx hb dL_law_2119 hl1 (by decide) rfl (fun ls2 hl2 => ?_)
  replace hl2 : lv_has ls2 10 [(7, .int r), (6, .int k9), (0, .ref b), (1, .ref (ad G 715)), (2, .ref (ad G 723)), (3, .ref (ad G 735)), (4, .ref (ad G 736)), (5, .int (nI (4 * n)))] := hl2
  obtain ⟨hs1, hs2⟩ := hstep k9 Y hp r Z hp2
  exact lw_cmp C hW2 hS2 hl2.1 (lv_at hl2 4 rfl) (lv_at hl2 5 rfl) (lv_at hl2 1 rfl) (lv_at hl2 0 rfl) hs1 hs2 hc hs dL_law_2121 dL_law_2122 dL_law_2125 dL_law_2127 dL_law_2132 dL_law_2134 dL_law_2137 dL_law_2138 dL_law_2139 dL_law_2140 dL_law_2142 dL_law_2143 dL_law_2144 dL_law_2149 (by decide) (fun H3 locs3 h1 h2 => kk k9 Y hp r Z hp2 H3 locs3 ls2 h1 h2 hl2)
theorem lW_ingotByMass : Cond.codeWith yL_ingotByMass cL_ingotByMass 4 (some .int) [(0, 9, 12, 27)] ∈ lw_all := lw_mem 1245 (by decide +kernel) (by decide +kernel)
set_option maxHeartbeats 2000000 in
theorem lC_ingotByMass (C : Cx p m c cL_law 10 s args lw_all "FoundryLaw" G) (hX : va_X b L xs s s.heap) (hbl : b < s.heap.size) (hbA : ¬ Ab G b) (hS : va_S (Ab G) s.heap H locs) (hW : Wd G X H) {n : Nat} (hj : 4 * n + 3 < L) (hL : L < 2 ^ 31) (hl : lv_has ls 10 [(0, .ref b), (1, .ref (ad G 715)), (2, .ref (ad G 723)), (3, .ref (ad G 735)), (4, .ref (ad G 736)), (5, .int (nI (4 * n)))])
    {k f n1 f2 n2 : Nat} {post : Int32 → St → Prop} {postx : String → St → Prop} {post2 : St → Int32 → St → Prop} (hf : f ≤ 2000) (hn : n1 ≤ 94000) (hf2 : f2 ≤ 2000) (hn2 : n2 ≤ 94000) (hc : cells + k ≤ 714529) (hs : slots + 6 * k ≤ 6893124)
    (hM : MetXI l G k yX7_ingotByMass (wsG yX7_ingotByMass cX7_ingotByMass 3 (some .int)) (rmk k f n1) [.ref (ad G 715), .int (xs (4 * n + 1))] X post postx) (hmem : ∀ (E : String) (Y : St), postx E Y → E ∈ ["java/util/NoSuchElementException"])
    (hM2 : ∀ (k9 : Int32) (Y : St), lpost ["java/util/NoSuchElementException"] id post postx k9 Y → MetI l G yX8_ingotByMass (wsG yX8_ingotByMass cX8_ingotByMass 6 (some .int)) (rmz f2 n2) [.ref (ad G 723), .int (xs (4 * n + 1))] Y (post2 Y))
    (hstep : ∀ (k9 : Int32) (Y : St), lpost ["java/util/NoSuchElementException"] id post postx k9 Y → ∀ (r : Int32) (Z : St), post2 Y r Z → Z.1 15 0 = k9 ∧ (k9 = 0 → Z.1 27 0 = r))
    (kk : ∀ (k9 : Int32) (Y : St), lpost ["java/util/NoSuchElementException"] id post postx k9 Y → ∀ (r : Int32) (Z : St), post2 Y r Z → ∀ (H1 : Heap) (locs1 : List Loc) (ls1 : Array Slot), Wd G Z H1 → va_S (Ab G) s.heap H1 locs1 → lv_has ls1 10 [(7, .int r), (6, .int k9), (0, .ref b), (1, .ref (ad G 715)), (2, .ref (ad G 723)), (3, .ref (ad G 735)), (4, .ref (ad G 736)), (5, .int (nI (4 * n)))] → W p l e room_1 s m args below meth c H1 locs1 (cells + k) (slots + 6 * k) Q (F0 m 2989 ls1 [])) : W p l e room_1 s m args below meth c H locs cells slots Q (F0 m 2152 ls []) := by
  have hx := C.1.1
  have hb := C.1.2.1
  refine lv_aload_n hx hb dL_law_2152 rfl (lv_at hl 1 rfl) ?_
  refine lw_arg C hX hbl hbA hS 1 (by omega) hL (lv_at hl 0 rfl) (lv_at hl 5 rfl) (by decide) dL_law_2153 dL_law_2154 dL_law_2156 dL_law_2157 dL_law_2158 ?_
  refine lv_aload_n hx hb dL_law_2159 rfl (lv_at hl 3 rfl) ?_
  refine g_cxi (vx_runSX (hh := [(0, 9, 12, 27)]) (As := [.ref (ad G 715), .int (xs (4 * n + 1)), .ref (ad G 735)]) (rest := []) C.1 (hL_ingotByMass l G X (xs (4 * n + 1)) hM hmem) (vx_cwSW 3 C.1.2.2.2.2 (gSW0 qw_1243 qw_1244 qw_70 lW_ingotByMass) rfl rfl rfl (by decide +kernel) ⟨by show f + 1 + 1 ≤ 2048; omega, by show 8 + (4 + 11) + (n1 + 22) ≤ 94400; omega⟩) (g_pre C hW hS [.ref (ad G 715), .int (xs (4 * n + 1)), .ref (ad G 735)]) rfl rfl hl.1 rfl (lv_room (Nat.le_of_ble_eq_true rfl)) dL_law_2160 ⟨hc, hs⟩) hS (fun _ _ _ _ _ _ _ _ h => h.elim) ?_
  intro k9 Y H1 locs1 hW1 hS1 hp
  refine lv_istore hx hb dL_law_2163 hl (by decide) rfl (fun ls1 hl1 => ?_)
  replace hl1 : lv_has ls1 10 [(6, .int k9), (0, .ref b), (1, .ref (ad G 715)), (2, .ref (ad G 723)), (3, .ref (ad G 735)), (4, .ref (ad G 736)), (5, .int (nI (4 * n)))] := hl1
  refine lv_aload_n hx hb dL_law_2165 rfl (lv_at hl1 3 rfl) ?_
  refine lw_arg C hX hbl hbA hS1 1 (by omega) hL (lv_at hl1 1 rfl) (lv_at hl1 6 rfl) (by decide) dL_law_2166 dL_law_2167 dL_law_2169 dL_law_2170 dL_law_2171 ?_
  refine g_calli (va_runV (As := [.int (xs (4 * n + 1))]) (rest := []) C.1 (hM2 k9 Y hp) (cwV 1 C.1.2.2.2.2 (gV0 qw_1814 qw_1815 qw_1816 qw_81 qw_1817) rfl rfl rfl (by decide +kernel) ⟨by show f2 + 1 ≤ 2048; omega, by show 8 + (6 + 11) + n2 ≤ 94400; omega⟩) (g_rModel C hW1 hS1 [.int (xs (4 * n + 1))]) rfl rfl hl1.1 rfl (lv_room (Nat.le_of_ble_eq_true rfl)) dL_law_2172 ⟨hc, hs⟩) hS1 (fun r Z H2 locs2 hW2 hS2 hp2 => ?_)
  refine lv_istore hx hb dL_law_2175 hl1 (by decide) rfl (fun ls2 hl2 => ?_)
  replace hl2 : lv_has ls2 10 [(7, .int r), (6, .int k9), (0, .ref b), (1, .ref (ad G 715)), (2, .ref (ad G 723)), (3, .ref (ad G 735)), (4, .ref (ad G 736)), (5, .int (nI (4 * n)))] := hl2
  obtain ⟨hs1, hs2⟩ := hstep k9 Y hp r Z hp2
  exact lw_cmp C hW2 hS2 hl2.1 (lv_at hl2 4 rfl) (lv_at hl2 5 rfl) (lv_at hl2 1 rfl) (lv_at hl2 0 rfl) hs1 hs2 hc hs dL_law_2177 dL_law_2178 dL_law_2181 dL_law_2183 dL_law_2188 dL_law_2190 dL_law_2193 dL_law_2194 dL_law_2195 dL_law_2196 dL_law_2198 dL_law_2199 dL_law_2200 dL_law_2205 (by decide) (fun H3 locs3 h1 h2 => kk k9 Y hp r Z hp2 H3 locs3 ls2 h1 h2 hl2)
theorem lW_charged : Cond.codeWith yL_charged cL_charged 4 (some .int) [(0, 9, 12, 15)] ∈ lw_all := lw_mem 1260 (by decide +kernel) (by decide +kernel)
set_option maxHeartbeats 2000000 in
theorem lC_charged (C : Cx p m c cL_law 10 s args lw_all "FoundryLaw" G) (hX : va_X b L xs s s.heap) (hbl : b < s.heap.size) (hbA : ¬ Ab G b) (hS : va_S (Ab G) s.heap H locs) (hW : Wd G X H) {n : Nat} (hj : 4 * n + 3 < L) (hL : L < 2 ^ 31) (hl : lv_has ls 10 [(0, .ref b), (1, .ref (ad G 715)), (2, .ref (ad G 723)), (3, .ref (ad G 735)), (4, .ref (ad G 736)), (5, .int (nI (4 * n)))])
    {k f n1 f2 n2 : Nat} {post : Int32 → St → Prop} {postx : String → St → Prop} {post2 : St → Int32 → St → Prop} (hf : f ≤ 2000) (hn : n1 ≤ 94000) (hf2 : f2 ≤ 2000) (hn2 : n2 ≤ 94000) (hc : cells + k ≤ 714529) (hs : slots + 6 * k ≤ 6893124)
    (hM : MetXI l G k yX7_charged (wsG yX7_charged cX7_charged 2 (some .int)) (rmk k f n1) [.ref (ad G 715), .int (((xs (4 * n + 1)).toUInt32 % 65536).toInt32)] X post postx) (hmem : ∀ (E : String) (Y : St), postx E Y → E ∈ ["java/lang/IllegalArgumentException"])
    (hM2 : ∀ (k9 : Int32) (Y : St), lpost ["java/lang/IllegalArgumentException"] id post postx k9 Y → MetI l G yX8_charged (wsG yX8_charged cX8_charged 2 (some .int)) (rmz f2 n2) [.ref (ad G 723), .int (((xs (4 * n + 1)).toUInt32 % 65536).toInt32)] Y (post2 Y))
    (hstep : ∀ (k9 : Int32) (Y : St), lpost ["java/lang/IllegalArgumentException"] id post postx k9 Y → ∀ (r : Int32) (Z : St), post2 Y r Z → Z.1 15 0 = k9 ∧ (k9 = 0 → Z.1 27 0 = r))
    (kk : ∀ (k9 : Int32) (Y : St), lpost ["java/lang/IllegalArgumentException"] id post postx k9 Y → ∀ (r : Int32) (Z : St), post2 Y r Z → ∀ (H1 : Heap) (locs1 : List Loc) (ls1 : Array Slot), Wd G Z H1 → va_S (Ab G) s.heap H1 locs1 → lv_has ls1 10 [(7, .int r), (6, .int k9), (0, .ref b), (1, .ref (ad G 715)), (2, .ref (ad G 723)), (3, .ref (ad G 735)), (4, .ref (ad G 736)), (5, .int (nI (4 * n)))] → W p l e room_1 s m args below meth c H1 locs1 (cells + k) (slots + 6 * k) Q (F0 m 2989 ls1 [])) : W p l e room_1 s m args below meth c H locs cells slots Q (F0 m 2221 ls []) := by
  have hx := C.1.1
  have hb := C.1.2.1
  refine lv_aload_n hx hb dL_law_2221 rfl (lv_at hl 1 rfl) ?_
  refine lw_argc C hX hbl hbA hS 1 (by omega) hL (lv_at hl 0 rfl) (lv_at hl 5 rfl) (by decide) dL_law_2222 dL_law_2223 dL_law_2225 dL_law_2226 dL_law_2227 dL_law_2228 ?_
  refine lv_aload_n hx hb dL_law_2229 rfl (lv_at hl 3 rfl) ?_
  refine g_cxi (vx_runSX (hh := [(0, 9, 12, 15)]) (As := [.ref (ad G 715), .int (((xs (4 * n + 1)).toUInt32 % 65536).toInt32), .ref (ad G 735)]) (rest := []) C.1 (hL_charged l G X (((xs (4 * n + 1)).toUInt32 % 65536).toInt32) hM hmem) (vx_cwSW 3 C.1.2.2.2.2 (gSW0 qw_1258 qw_1259 qw_70 lW_charged) rfl rfl rfl (by decide +kernel) ⟨by show f + 1 + 1 ≤ 2048; omega, by show 8 + (4 + 11) + (n1 + 21) ≤ 94400; omega⟩) (g_pre C hW hS [.ref (ad G 715), .int (((xs (4 * n + 1)).toUInt32 % 65536).toInt32), .ref (ad G 735)]) rfl rfl hl.1 rfl (lv_room (Nat.le_of_ble_eq_true rfl)) dL_law_2230 ⟨hc, hs⟩) hS (fun _ _ _ _ _ _ _ _ h => h.elim) ?_
  intro k9 Y H1 locs1 hW1 hS1 hp
  refine lv_istore hx hb dL_law_2233 hl (by decide) rfl (fun ls1 hl1 => ?_)
  replace hl1 : lv_has ls1 10 [(6, .int k9), (0, .ref b), (1, .ref (ad G 715)), (2, .ref (ad G 723)), (3, .ref (ad G 735)), (4, .ref (ad G 736)), (5, .int (nI (4 * n)))] := hl1
  refine lv_aload_n hx hb dL_law_2235 rfl (lv_at hl1 3 rfl) ?_
  refine lw_argc C hX hbl hbA hS1 1 (by omega) hL (lv_at hl1 1 rfl) (lv_at hl1 6 rfl) (by decide) dL_law_2236 dL_law_2237 dL_law_2239 dL_law_2240 dL_law_2241 dL_law_2242 ?_
  refine g_calli (va_runV (As := [.int (((xs (4 * n + 1)).toUInt32 % 65536).toInt32)]) (rest := []) C.1 (hM2 k9 Y hp) (cwV 1 C.1.2.2.2.2 (gV0 qw_1822 qw_1823 qw_1824 qw_81 qw_1825) rfl rfl rfl (by decide +kernel) ⟨by show f2 + 1 ≤ 2048; omega, by show 8 + (2 + 11) + n2 ≤ 94400; omega⟩) (g_rModel C hW1 hS1 [.int (((xs (4 * n + 1)).toUInt32 % 65536).toInt32)]) rfl rfl hl1.1 rfl (lv_room (Nat.le_of_ble_eq_true rfl)) dL_law_2243 ⟨hc, hs⟩) hS1 (fun r Z H2 locs2 hW2 hS2 hp2 => ?_)
  refine lv_istore hx hb dL_law_2246 hl1 (by decide) rfl (fun ls2 hl2 => ?_)
  replace hl2 : lv_has ls2 10 [(7, .int r), (6, .int k9), (0, .ref b), (1, .ref (ad G 715)), (2, .ref (ad G 723)), (3, .ref (ad G 735)), (4, .ref (ad G 736)), (5, .int (nI (4 * n)))] := hl2
  obtain ⟨hs1, hs2⟩ := hstep k9 Y hp r Z hp2
  exact lw_cmp C hW2 hS2 hl2.1 (lv_at hl2 4 rfl) (lv_at hl2 5 rfl) (lv_at hl2 1 rfl) (lv_at hl2 0 rfl) hs1 hs2 hc hs dL_law_2248 dL_law_2249 dL_law_2252 dL_law_2254 dL_law_2259 dL_law_2261 dL_law_2264 dL_law_2265 dL_law_2266 dL_law_2267 dL_law_2269 dL_law_2270 dL_law_2271 dL_law_2276 (by decide) (fun H3 locs3 h1 h2 => kk k9 Y hp r Z hp2 H3 locs3 ls2 h1 h2 hl2)
theorem lW_slag : Cond.codeWith yL_slag cL_slag 4 (some .int) [(0, 9, 12, 15)] ∈ lw_all := lw_mem 1267 (by decide +kernel) (by decide +kernel)
set_option maxHeartbeats 2000000 in
theorem lC_slag (C : Cx p m c cL_law 10 s args lw_all "FoundryLaw" G) (hX : va_X b L xs s s.heap) (hbl : b < s.heap.size) (hbA : ¬ Ab G b) (hS : va_S (Ab G) s.heap H locs) (hW : Wd G X H) {n : Nat} (hj : 4 * n + 3 < L) (hL : L < 2 ^ 31) (hl : lv_has ls 10 [(0, .ref b), (1, .ref (ad G 715)), (2, .ref (ad G 723)), (3, .ref (ad G 735)), (4, .ref (ad G 736)), (5, .int (nI (4 * n)))])
    {k f n1 f2 n2 : Nat} {post : Int32 → St → Prop} {postx : String → St → Prop} {post2 : St → Int32 → St → Prop} (hf : f ≤ 2000) (hn : n1 ≤ 94000) (hf2 : f2 ≤ 2000) (hn2 : n2 ≤ 94000) (hc : cells + k ≤ 714529) (hs : slots + 6 * k ≤ 6893124)
    (hM : MetXI l G k yX7_slag (wsG yX7_slag cX7_slag 2 (some .int)) (rmk k f n1) [.ref (ad G 715), .int (((xs (4 * n + 1)).toUInt32 % 65536).toInt32)] X post postx) (hmem : ∀ (E : String) (Y : St), postx E Y → E ∈ ["java/lang/IllegalArgumentException"])
    (hM2 : ∀ (k9 : Int32) (Y : St), lpost ["java/lang/IllegalArgumentException"] id post postx k9 Y → MetI l G yX8_slag (wsG yX8_slag cX8_slag 2 (some .int)) (rmz f2 n2) [.ref (ad G 723), .int (((xs (4 * n + 1)).toUInt32 % 65536).toInt32)] Y (post2 Y))
    (hstep : ∀ (k9 : Int32) (Y : St), lpost ["java/lang/IllegalArgumentException"] id post postx k9 Y → ∀ (r : Int32) (Z : St), post2 Y r Z → Z.1 15 0 = k9 ∧ (k9 = 0 → Z.1 27 0 = r))
    (kk : ∀ (k9 : Int32) (Y : St), lpost ["java/lang/IllegalArgumentException"] id post postx k9 Y → ∀ (r : Int32) (Z : St), post2 Y r Z → ∀ (H1 : Heap) (locs1 : List Loc) (ls1 : Array Slot), Wd G Z H1 → va_S (Ab G) s.heap H1 locs1 → lv_has ls1 10 [(7, .int r), (6, .int k9), (0, .ref b), (1, .ref (ad G 715)), (2, .ref (ad G 723)), (3, .ref (ad G 735)), (4, .ref (ad G 736)), (5, .int (nI (4 * n)))] → W p l e room_1 s m args below meth c H1 locs1 (cells + k) (slots + 6 * k) Q (F0 m 2989 ls1 [])) : W p l e room_1 s m args below meth c H locs cells slots Q (F0 m 2279 ls []) := by
  have hx := C.1.1
  have hb := C.1.2.1
  refine lv_aload_n hx hb dL_law_2279 rfl (lv_at hl 1 rfl) ?_
  refine lw_argc C hX hbl hbA hS 1 (by omega) hL (lv_at hl 0 rfl) (lv_at hl 5 rfl) (by decide) dL_law_2280 dL_law_2281 dL_law_2283 dL_law_2284 dL_law_2285 dL_law_2286 ?_
  refine lv_aload_n hx hb dL_law_2287 rfl (lv_at hl 3 rfl) ?_
  refine g_cxi (vx_runSX (hh := [(0, 9, 12, 15)]) (As := [.ref (ad G 715), .int (((xs (4 * n + 1)).toUInt32 % 65536).toInt32), .ref (ad G 735)]) (rest := []) C.1 (hL_slag l G X (((xs (4 * n + 1)).toUInt32 % 65536).toInt32) hM hmem) (vx_cwSW 3 C.1.2.2.2.2 (gSW0 qw_1265 qw_1266 qw_70 lW_slag) rfl rfl rfl (by decide +kernel) ⟨by show f + 1 + 1 ≤ 2048; omega, by show 8 + (4 + 11) + (n1 + 21) ≤ 94400; omega⟩) (g_pre C hW hS [.ref (ad G 715), .int (((xs (4 * n + 1)).toUInt32 % 65536).toInt32), .ref (ad G 735)]) rfl rfl hl.1 rfl (lv_room (Nat.le_of_ble_eq_true rfl)) dL_law_2288 ⟨hc, hs⟩) hS (fun _ _ _ _ _ _ _ _ h => h.elim) ?_
  intro k9 Y H1 locs1 hW1 hS1 hp
  refine lv_istore hx hb dL_law_2291 hl (by decide) rfl (fun ls1 hl1 => ?_)
  replace hl1 : lv_has ls1 10 [(6, .int k9), (0, .ref b), (1, .ref (ad G 715)), (2, .ref (ad G 723)), (3, .ref (ad G 735)), (4, .ref (ad G 736)), (5, .int (nI (4 * n)))] := hl1
  refine lv_aload_n hx hb dL_law_2293 rfl (lv_at hl1 3 rfl) ?_
  refine lw_argc C hX hbl hbA hS1 1 (by omega) hL (lv_at hl1 1 rfl) (lv_at hl1 6 rfl) (by decide) dL_law_2294 dL_law_2295 dL_law_2297 dL_law_2298 dL_law_2299 dL_law_2300 ?_
  refine g_calli (va_runV (As := [.int (((xs (4 * n + 1)).toUInt32 % 65536).toInt32)]) (rest := []) C.1 (hM2 k9 Y hp) (cwV 1 C.1.2.2.2.2 (gV0 qw_1830 qw_1831 qw_1832 qw_81 qw_1833) rfl rfl rfl (by decide +kernel) ⟨by show f2 + 1 ≤ 2048; omega, by show 8 + (2 + 11) + n2 ≤ 94400; omega⟩) (g_rModel C hW1 hS1 [.int (((xs (4 * n + 1)).toUInt32 % 65536).toInt32)]) rfl rfl hl1.1 rfl (lv_room (Nat.le_of_ble_eq_true rfl)) dL_law_2301 ⟨hc, hs⟩) hS1 (fun r Z H2 locs2 hW2 hS2 hp2 => ?_)
  refine lv_istore hx hb dL_law_2304 hl1 (by decide) rfl (fun ls2 hl2 => ?_)
  replace hl2 : lv_has ls2 10 [(7, .int r), (6, .int k9), (0, .ref b), (1, .ref (ad G 715)), (2, .ref (ad G 723)), (3, .ref (ad G 735)), (4, .ref (ad G 736)), (5, .int (nI (4 * n)))] := hl2
  obtain ⟨hs1, hs2⟩ := hstep k9 Y hp r Z hp2
  exact lw_cmp C hW2 hS2 hl2.1 (lv_at hl2 4 rfl) (lv_at hl2 5 rfl) (lv_at hl2 1 rfl) (lv_at hl2 0 rfl) hs1 hs2 hc hs dL_law_2306 dL_law_2307 dL_law_2310 dL_law_2312 dL_law_2317 dL_law_2319 dL_law_2322 dL_law_2323 dL_law_2324 dL_law_2325 dL_law_2327 dL_law_2328 dL_law_2329 dL_law_2334 (by decide) (fun H3 locs3 h1 h2 => kk k9 Y hp r Z hp2 H3 locs3 ls2 h1 h2 hl2)
theorem lW_stock : Cond.codeWith yL_stock cL_stock 4 (some .int) [(0, 9, 12, 15)] ∈ lw_all := lw_mem 1274 (by decide +kernel) (by decide +kernel)
set_option maxHeartbeats 2000000 in
theorem lC_stock (C : Cx p m c cL_law 10 s args lw_all "FoundryLaw" G) (hX : va_X b L xs s s.heap) (hbl : b < s.heap.size) (hbA : ¬ Ab G b) (hS : va_S (Ab G) s.heap H locs) (hW : Wd G X H) {n : Nat} (hj : 4 * n + 3 < L) (hL : L < 2 ^ 31) (hl : lv_has ls 10 [(0, .ref b), (1, .ref (ad G 715)), (2, .ref (ad G 723)), (3, .ref (ad G 735)), (4, .ref (ad G 736)), (5, .int (nI (4 * n)))])
    {k f n1 f2 n2 : Nat} {post : Int32 → St → Prop} {postx : String → St → Prop} {post2 : St → Int32 → St → Prop} (hf : f ≤ 2000) (hn : n1 ≤ 94000) (hf2 : f2 ≤ 2000) (hn2 : n2 ≤ 94000) (hc : cells + k ≤ 714529) (hs : slots + 6 * k ≤ 6893124)
    (hM : MetXI l G k yX7_stock (wsG yX7_stock cX7_stock 2 (some .int)) (rmk k f n1) [.ref (ad G 715), .int (((xs (4 * n + 1)).toUInt32 % 65536).toInt32)] X post postx) (hmem : ∀ (E : String) (Y : St), postx E Y → E ∈ ["java/lang/IllegalArgumentException"])
    (hM2 : ∀ (k9 : Int32) (Y : St), lpost ["java/lang/IllegalArgumentException"] id post postx k9 Y → MetI l G yX8_stock (wsG yX8_stock cX8_stock 2 (some .int)) (rmz f2 n2) [.ref (ad G 723), .int (((xs (4 * n + 1)).toUInt32 % 65536).toInt32)] Y (post2 Y))
    (hstep : ∀ (k9 : Int32) (Y : St), lpost ["java/lang/IllegalArgumentException"] id post postx k9 Y → ∀ (r : Int32) (Z : St), post2 Y r Z → Z.1 15 0 = k9 ∧ (k9 = 0 → Z.1 27 0 = r))
    (kk : ∀ (k9 : Int32) (Y : St), lpost ["java/lang/IllegalArgumentException"] id post postx k9 Y → ∀ (r : Int32) (Z : St), post2 Y r Z → ∀ (H1 : Heap) (locs1 : List Loc) (ls1 : Array Slot), Wd G Z H1 → va_S (Ab G) s.heap H1 locs1 → lv_has ls1 10 [(7, .int r), (6, .int k9), (0, .ref b), (1, .ref (ad G 715)), (2, .ref (ad G 723)), (3, .ref (ad G 735)), (4, .ref (ad G 736)), (5, .int (nI (4 * n)))] → W p l e room_1 s m args below meth c H1 locs1 (cells + k) (slots + 6 * k) Q (F0 m 2989 ls1 [])) : W p l e room_1 s m args below meth c H locs cells slots Q (F0 m 2337 ls []) := by
  have hx := C.1.1
  have hb := C.1.2.1
  refine lv_aload_n hx hb dL_law_2337 rfl (lv_at hl 1 rfl) ?_
  refine lw_argc C hX hbl hbA hS 1 (by omega) hL (lv_at hl 0 rfl) (lv_at hl 5 rfl) (by decide) dL_law_2338 dL_law_2339 dL_law_2341 dL_law_2342 dL_law_2343 dL_law_2344 ?_
  refine lv_aload_n hx hb dL_law_2345 rfl (lv_at hl 3 rfl) ?_
  refine g_cxi (vx_runSX (hh := [(0, 9, 12, 15)]) (As := [.ref (ad G 715), .int (((xs (4 * n + 1)).toUInt32 % 65536).toInt32), .ref (ad G 735)]) (rest := []) C.1 (hL_stock l G X (((xs (4 * n + 1)).toUInt32 % 65536).toInt32) hM hmem) (vx_cwSW 3 C.1.2.2.2.2 (gSW0 qw_1272 qw_1273 qw_70 lW_stock) rfl rfl rfl (by decide +kernel) ⟨by show f + 1 + 1 ≤ 2048; omega, by show 8 + (4 + 11) + (n1 + 21) ≤ 94400; omega⟩) (g_pre C hW hS [.ref (ad G 715), .int (((xs (4 * n + 1)).toUInt32 % 65536).toInt32), .ref (ad G 735)]) rfl rfl hl.1 rfl (lv_room (Nat.le_of_ble_eq_true rfl)) dL_law_2346 ⟨hc, hs⟩) hS (fun _ _ _ _ _ _ _ _ h => h.elim) ?_
  intro k9 Y H1 locs1 hW1 hS1 hp
  refine lv_istore hx hb dL_law_2349 hl (by decide) rfl (fun ls1 hl1 => ?_)
  replace hl1 : lv_has ls1 10 [(6, .int k9), (0, .ref b), (1, .ref (ad G 715)), (2, .ref (ad G 723)), (3, .ref (ad G 735)), (4, .ref (ad G 736)), (5, .int (nI (4 * n)))] := hl1
  refine lv_aload_n hx hb dL_law_2351 rfl (lv_at hl1 3 rfl) ?_
  refine lw_argc C hX hbl hbA hS1 1 (by omega) hL (lv_at hl1 1 rfl) (lv_at hl1 6 rfl) (by decide) dL_law_2352 dL_law_2353 dL_law_2355 dL_law_2356 dL_law_2357 dL_law_2358 ?_
  refine g_calli (va_runV (As := [.int (((xs (4 * n + 1)).toUInt32 % 65536).toInt32)]) (rest := []) C.1 (hM2 k9 Y hp) (cwV 1 C.1.2.2.2.2 (gV0 qw_1834 qw_1835 qw_1836 qw_81 qw_1837) rfl rfl rfl (by decide +kernel) ⟨by show f2 + 1 ≤ 2048; omega, by show 8 + (2 + 11) + n2 ≤ 94400; omega⟩) (g_rModel C hW1 hS1 [.int (((xs (4 * n + 1)).toUInt32 % 65536).toInt32)]) rfl rfl hl1.1 rfl (lv_room (Nat.le_of_ble_eq_true rfl)) dL_law_2359 ⟨hc, hs⟩) hS1 (fun r Z H2 locs2 hW2 hS2 hp2 => ?_)
  refine lv_istore hx hb dL_law_2362 hl1 (by decide) rfl (fun ls2 hl2 => ?_)
  replace hl2 : lv_has ls2 10 [(7, .int r), (6, .int k9), (0, .ref b), (1, .ref (ad G 715)), (2, .ref (ad G 723)), (3, .ref (ad G 735)), (4, .ref (ad G 736)), (5, .int (nI (4 * n)))] := hl2
  obtain ⟨hs1, hs2⟩ := hstep k9 Y hp r Z hp2
  exact lw_cmp C hW2 hS2 hl2.1 (lv_at hl2 4 rfl) (lv_at hl2 5 rfl) (lv_at hl2 1 rfl) (lv_at hl2 0 rfl) hs1 hs2 hc hs dL_law_2364 dL_law_2365 dL_law_2368 dL_law_2370 dL_law_2375 dL_law_2377 dL_law_2380 dL_law_2381 dL_law_2382 dL_law_2383 dL_law_2385 dL_law_2386 dL_law_2387 dL_law_2392 (by decide) (fun H3 locs3 h1 h2 => kk k9 Y hp r Z hp2 H3 locs3 ls2 h1 h2 hl2)
theorem lW_stockByAccounts : Cond.codeWith yL_stockByAccounts cL_stockByAccounts 4 (some .int) [(0, 9, 12, 15)] ∈ lw_all := lw_mem 1281 (by decide +kernel) (by decide +kernel)
set_option maxHeartbeats 2000000 in
theorem lC_stockByAccounts (C : Cx p m c cL_law 10 s args lw_all "FoundryLaw" G) (hX : va_X b L xs s s.heap) (hbl : b < s.heap.size) (hbA : ¬ Ab G b) (hS : va_S (Ab G) s.heap H locs) (hW : Wd G X H) {n : Nat} (hj : 4 * n + 3 < L) (hL : L < 2 ^ 31) (hl : lv_has ls 10 [(0, .ref b), (1, .ref (ad G 715)), (2, .ref (ad G 723)), (3, .ref (ad G 735)), (4, .ref (ad G 736)), (5, .int (nI (4 * n)))])
    {k f n1 f2 n2 : Nat} {post : Int32 → St → Prop} {postx : String → St → Prop} {post2 : St → Int32 → St → Prop} (hf : f ≤ 2000) (hn : n1 ≤ 94000) (hf2 : f2 ≤ 2000) (hn2 : n2 ≤ 94000) (hc : cells + k ≤ 714529) (hs : slots + 6 * k ≤ 6893124)
    (hM : MetXI l G k yX7_stockByAccounts (wsG yX7_stockByAccounts cX7_stockByAccounts 2 (some .int)) (rmk k f n1) [.ref (ad G 715), .int (((xs (4 * n + 1)).toUInt32 % 65536).toInt32)] X post postx) (hmem : ∀ (E : String) (Y : St), postx E Y → E ∈ ["java/lang/IllegalArgumentException"])
    (hM2 : ∀ (k9 : Int32) (Y : St), lpost ["java/lang/IllegalArgumentException"] id post postx k9 Y → MetI l G yX8_stockByAccounts (wsG yX8_stockByAccounts cX8_stockByAccounts 2 (some .int)) (rmz f2 n2) [.ref (ad G 723), .int (((xs (4 * n + 1)).toUInt32 % 65536).toInt32)] Y (post2 Y))
    (hstep : ∀ (k9 : Int32) (Y : St), lpost ["java/lang/IllegalArgumentException"] id post postx k9 Y → ∀ (r : Int32) (Z : St), post2 Y r Z → Z.1 15 0 = k9 ∧ (k9 = 0 → Z.1 27 0 = r))
    (kk : ∀ (k9 : Int32) (Y : St), lpost ["java/lang/IllegalArgumentException"] id post postx k9 Y → ∀ (r : Int32) (Z : St), post2 Y r Z → ∀ (H1 : Heap) (locs1 : List Loc) (ls1 : Array Slot), Wd G Z H1 → va_S (Ab G) s.heap H1 locs1 → lv_has ls1 10 [(7, .int r), (6, .int k9), (0, .ref b), (1, .ref (ad G 715)), (2, .ref (ad G 723)), (3, .ref (ad G 735)), (4, .ref (ad G 736)), (5, .int (nI (4 * n)))] → W p l e room_1 s m args below meth c H1 locs1 (cells + k) (slots + 6 * k) Q (F0 m 2989 ls1 [])) : W p l e room_1 s m args below meth c H locs cells slots Q (F0 m 2395 ls []) := by
  have hx := C.1.1
  have hb := C.1.2.1
  refine lv_aload_n hx hb dL_law_2395 rfl (lv_at hl 1 rfl) ?_
  refine lw_argc C hX hbl hbA hS 1 (by omega) hL (lv_at hl 0 rfl) (lv_at hl 5 rfl) (by decide) dL_law_2396 dL_law_2397 dL_law_2399 dL_law_2400 dL_law_2401 dL_law_2402 ?_
  refine lv_aload_n hx hb dL_law_2403 rfl (lv_at hl 3 rfl) ?_
  refine g_cxi (vx_runSX (hh := [(0, 9, 12, 15)]) (As := [.ref (ad G 715), .int (((xs (4 * n + 1)).toUInt32 % 65536).toInt32), .ref (ad G 735)]) (rest := []) C.1 (hL_stockByAccounts l G X (((xs (4 * n + 1)).toUInt32 % 65536).toInt32) hM hmem) (vx_cwSW 3 C.1.2.2.2.2 (gSW0 qw_1279 qw_1280 qw_70 lW_stockByAccounts) rfl rfl rfl (by decide +kernel) ⟨by show f + 1 + 1 ≤ 2048; omega, by show 8 + (4 + 11) + (n1 + 21) ≤ 94400; omega⟩) (g_pre C hW hS [.ref (ad G 715), .int (((xs (4 * n + 1)).toUInt32 % 65536).toInt32), .ref (ad G 735)]) rfl rfl hl.1 rfl (lv_room (Nat.le_of_ble_eq_true rfl)) dL_law_2404 ⟨hc, hs⟩) hS (fun _ _ _ _ _ _ _ _ h => h.elim) ?_
  intro k9 Y H1 locs1 hW1 hS1 hp
  refine lv_istore hx hb dL_law_2407 hl (by decide) rfl (fun ls1 hl1 => ?_)
  replace hl1 : lv_has ls1 10 [(6, .int k9), (0, .ref b), (1, .ref (ad G 715)), (2, .ref (ad G 723)), (3, .ref (ad G 735)), (4, .ref (ad G 736)), (5, .int (nI (4 * n)))] := hl1
  refine lv_aload_n hx hb dL_law_2409 rfl (lv_at hl1 3 rfl) ?_
  refine lw_argc C hX hbl hbA hS1 1 (by omega) hL (lv_at hl1 1 rfl) (lv_at hl1 6 rfl) (by decide) dL_law_2410 dL_law_2411 dL_law_2413 dL_law_2414 dL_law_2415 dL_law_2416 ?_
  refine g_calli (va_runV (As := [.int (((xs (4 * n + 1)).toUInt32 % 65536).toInt32)]) (rest := []) C.1 (hM2 k9 Y hp) (cwV 1 C.1.2.2.2.2 (gV0 qw_1838 qw_1839 qw_1840 qw_81 qw_1841) rfl rfl rfl (by decide +kernel) ⟨by show f2 + 1 ≤ 2048; omega, by show 8 + (2 + 11) + n2 ≤ 94400; omega⟩) (g_rModel C hW1 hS1 [.int (((xs (4 * n + 1)).toUInt32 % 65536).toInt32)]) rfl rfl hl1.1 rfl (lv_room (Nat.le_of_ble_eq_true rfl)) dL_law_2417 ⟨hc, hs⟩) hS1 (fun r Z H2 locs2 hW2 hS2 hp2 => ?_)
  refine lv_istore hx hb dL_law_2420 hl1 (by decide) rfl (fun ls2 hl2 => ?_)
  replace hl2 : lv_has ls2 10 [(7, .int r), (6, .int k9), (0, .ref b), (1, .ref (ad G 715)), (2, .ref (ad G 723)), (3, .ref (ad G 735)), (4, .ref (ad G 736)), (5, .int (nI (4 * n)))] := hl2
  obtain ⟨hs1, hs2⟩ := hstep k9 Y hp r Z hp2
  exact lw_cmp C hW2 hS2 hl2.1 (lv_at hl2 4 rfl) (lv_at hl2 5 rfl) (lv_at hl2 1 rfl) (lv_at hl2 0 rfl) hs1 hs2 hc hs dL_law_2422 dL_law_2423 dL_law_2426 dL_law_2428 dL_law_2433 dL_law_2435 dL_law_2438 dL_law_2439 dL_law_2440 dL_law_2441 dL_law_2443 dL_law_2444 dL_law_2445 dL_law_2450 (by decide) (fun H3 locs3 h1 h2 => kk k9 Y hp r Z hp2 H3 locs3 ls2 h1 h2 hl2)
theorem lW_renderFurnace : Cond.codeWith yL_renderFurnace cL_renderFurnace 4 (some .int) [(0, 9, 12, 13)] ∈ lw_all := lw_mem 1314 (by decide +kernel) (by decide +kernel)
set_option maxHeartbeats 2000000 in
theorem lC_renderFurnace (C : Cx p m c cL_law 10 s args lw_all "FoundryLaw" G) (hX : va_X b L xs s s.heap) (hbl : b < s.heap.size) (hbA : ¬ Ab G b) (hS : va_S (Ab G) s.heap H locs) (hW : Wd G X H) {n : Nat} (hj : 4 * n + 3 < L) (hL : L < 2 ^ 31) (hl : lv_has ls 10 [(0, .ref b), (1, .ref (ad G 715)), (2, .ref (ad G 723)), (3, .ref (ad G 735)), (4, .ref (ad G 736)), (5, .int (nI (4 * n)))])
    {k f n1 f2 n2 : Nat} {post : Int32 → St → Prop} {postx : String → St → Prop} {post2 : St → Int32 → St → Prop} (hf : f ≤ 2000) (hn : n1 ≤ 94000) (hf2 : f2 ≤ 2000) (hn2 : n2 ≤ 94000) (hc : cells + k ≤ 714529) (hs : slots + 6 * k ≤ 6893124)
    (hM : MetXI l G k yX7_renderFurnace (wsG yX7_renderFurnace cX7_renderFurnace 5 (some .int)) (rmk k f n1) [.ref (ad G 715), .int (xs (4 * n + 1))] X post postx) (hmem : ∀ (E : String) (Y : St), postx E Y → E ∈ ["java/lang/IndexOutOfBoundsException"])
    (hM2 : ∀ (k9 : Int32) (Y : St), lpost ["java/lang/IndexOutOfBoundsException"] id post postx k9 Y → MetI l G yX8_renderFurnace (wsG yX8_renderFurnace cX8_renderFurnace 4 (some .int)) (rmz f2 n2) [.ref (ad G 723), .int (xs (4 * n + 1))] Y (post2 Y))
    (hstep : ∀ (k9 : Int32) (Y : St), lpost ["java/lang/IndexOutOfBoundsException"] id post postx k9 Y → ∀ (r : Int32) (Z : St), post2 Y r Z → Z.1 15 0 = k9 ∧ (k9 = 0 → Z.1 27 0 = r))
    (kk : ∀ (k9 : Int32) (Y : St), lpost ["java/lang/IndexOutOfBoundsException"] id post postx k9 Y → ∀ (r : Int32) (Z : St), post2 Y r Z → ∀ (H1 : Heap) (locs1 : List Loc) (ls1 : Array Slot), Wd G Z H1 → va_S (Ab G) s.heap H1 locs1 → lv_has ls1 10 [(7, .int r), (6, .int k9), (0, .ref b), (1, .ref (ad G 715)), (2, .ref (ad G 723)), (3, .ref (ad G 735)), (4, .ref (ad G 736)), (5, .int (nI (4 * n)))] → W p l e room_1 s m args below meth c H1 locs1 (cells + k) (slots + 6 * k) Q (F0 m 2989 ls1 [])) : W p l e room_1 s m args below meth c H locs cells slots Q (F0 m 2573 ls []) := by
  have hx := C.1.1
  have hb := C.1.2.1
  refine lv_aload_n hx hb dL_law_2573 rfl (lv_at hl 1 rfl) ?_
  refine lw_arg C hX hbl hbA hS 1 (by omega) hL (lv_at hl 0 rfl) (lv_at hl 5 rfl) (by decide) dL_law_2574 dL_law_2575 dL_law_2577 dL_law_2578 dL_law_2579 ?_
  refine lv_aload_n hx hb dL_law_2580 rfl (lv_at hl 3 rfl) ?_
  refine g_cxi (vx_runSX (hh := [(0, 9, 12, 13)]) (As := [.ref (ad G 715), .int (xs (4 * n + 1)), .ref (ad G 735)]) (rest := []) C.1 (hL_renderFurnace l G X (xs (4 * n + 1)) hM hmem) (vx_cwSW 3 C.1.2.2.2.2 (gSW0 qw_1312 qw_1313 qw_70 lW_renderFurnace) rfl rfl rfl (by decide +kernel) ⟨by show f + 1 + 1 ≤ 2048; omega, by show 8 + (4 + 11) + (n1 + 24) ≤ 94400; omega⟩) (g_pre C hW hS [.ref (ad G 715), .int (xs (4 * n + 1)), .ref (ad G 735)]) rfl rfl hl.1 rfl (lv_room (Nat.le_of_ble_eq_true rfl)) dL_law_2581 ⟨hc, hs⟩) hS (fun _ _ _ _ _ _ _ _ h => h.elim) ?_
  intro k9 Y H1 locs1 hW1 hS1 hp
  refine lv_istore hx hb dL_law_2584 hl (by decide) rfl (fun ls1 hl1 => ?_)
  replace hl1 : lv_has ls1 10 [(6, .int k9), (0, .ref b), (1, .ref (ad G 715)), (2, .ref (ad G 723)), (3, .ref (ad G 735)), (4, .ref (ad G 736)), (5, .int (nI (4 * n)))] := hl1
  refine lv_aload_n hx hb dL_law_2586 rfl (lv_at hl1 3 rfl) ?_
  refine lw_arg C hX hbl hbA hS1 1 (by omega) hL (lv_at hl1 1 rfl) (lv_at hl1 6 rfl) (by decide) dL_law_2587 dL_law_2588 dL_law_2590 dL_law_2591 dL_law_2592 ?_
  refine g_calli (va_runV (As := [.int (xs (4 * n + 1))]) (rest := []) C.1 (hM2 k9 Y hp) (cwV 1 C.1.2.2.2.2 (gV0 qw_1856 qw_1857 qw_1858 qw_81 qw_1859) rfl rfl rfl (by decide +kernel) ⟨by show f2 + 1 ≤ 2048; omega, by show 8 + (4 + 11) + n2 ≤ 94400; omega⟩) (g_rModel C hW1 hS1 [.int (xs (4 * n + 1))]) rfl rfl hl1.1 rfl (lv_room (Nat.le_of_ble_eq_true rfl)) dL_law_2593 ⟨hc, hs⟩) hS1 (fun r Z H2 locs2 hW2 hS2 hp2 => ?_)
  refine lv_istore hx hb dL_law_2596 hl1 (by decide) rfl (fun ls2 hl2 => ?_)
  replace hl2 : lv_has ls2 10 [(7, .int r), (6, .int k9), (0, .ref b), (1, .ref (ad G 715)), (2, .ref (ad G 723)), (3, .ref (ad G 735)), (4, .ref (ad G 736)), (5, .int (nI (4 * n)))] := hl2
  obtain ⟨hs1, hs2⟩ := hstep k9 Y hp r Z hp2
  exact lw_cmp C hW2 hS2 hl2.1 (lv_at hl2 4 rfl) (lv_at hl2 5 rfl) (lv_at hl2 1 rfl) (lv_at hl2 0 rfl) hs1 hs2 hc hs dL_law_2598 dL_law_2599 dL_law_2602 dL_law_2604 dL_law_2609 dL_law_2611 dL_law_2614 dL_law_2615 dL_law_2616 dL_law_2617 dL_law_2619 dL_law_2620 dL_law_2621 dL_law_2626 (by decide) (fun H3 locs3 h1 h2 => kk k9 Y hp r Z hp2 H3 locs3 ls2 h1 h2 hl2)
theorem lW_outputAt : Cond.codeWith yL_outputAt cL_outputAt 4 (some .int) [(0, 9, 12, 13)] ∈ lw_all := lw_mem 1322 (by decide +kernel) (by decide +kernel)
set_option maxHeartbeats 2000000 in
theorem lC_outputAt (C : Cx p m c cL_law 10 s args lw_all "FoundryLaw" G) (hX : va_X b L xs s s.heap) (hbl : b < s.heap.size) (hbA : ¬ Ab G b) (hS : va_S (Ab G) s.heap H locs) (hW : Wd G X H) {n : Nat} (hj : 4 * n + 3 < L) (hL : L < 2 ^ 31) (hl : lv_has ls 10 [(0, .ref b), (1, .ref (ad G 715)), (2, .ref (ad G 723)), (3, .ref (ad G 735)), (4, .ref (ad G 736)), (5, .int (nI (4 * n)))])
    {k f n1 f2 n2 : Nat} {post : Int32 → St → Prop} {postx : String → St → Prop} {post2 : St → Int32 → St → Prop} (hf : f ≤ 2000) (hn : n1 ≤ 94000) (hf2 : f2 ≤ 2000) (hn2 : n2 ≤ 94000) (hc : cells + k ≤ 714529) (hs : slots + 6 * k ≤ 6893124)
    (hM : MetXI l G k yX7_outputAt (wsG yX7_outputAt cX7_outputAt 2 (some .char)) (rmk k f n1) [.ref (ad G 715), .int (xs (4 * n + 1))] X post postx) (hmem : ∀ (E : String) (Y : St), postx E Y → E ∈ ["java/lang/IndexOutOfBoundsException"])
    (hM2 : ∀ (k9 : Int32) (Y : St), lpost ["java/lang/IndexOutOfBoundsException"] id post postx k9 Y → MetI l G yX8_outputAt (wsG yX8_outputAt cX8_outputAt 2 (some .char)) (rmz f2 n2) [.ref (ad G 723), .int (xs (4 * n + 1))] Y (post2 Y))
    (hstep : ∀ (k9 : Int32) (Y : St), lpost ["java/lang/IndexOutOfBoundsException"] id post postx k9 Y → ∀ (r : Int32) (Z : St), post2 Y r Z → Z.1 15 0 = k9 ∧ (k9 = 0 → Z.1 27 0 = r))
    (kk : ∀ (k9 : Int32) (Y : St), lpost ["java/lang/IndexOutOfBoundsException"] id post postx k9 Y → ∀ (r : Int32) (Z : St), post2 Y r Z → ∀ (H1 : Heap) (locs1 : List Loc) (ls1 : Array Slot), Wd G Z H1 → va_S (Ab G) s.heap H1 locs1 → lv_has ls1 10 [(7, .int r), (6, .int k9), (0, .ref b), (1, .ref (ad G 715)), (2, .ref (ad G 723)), (3, .ref (ad G 735)), (4, .ref (ad G 736)), (5, .int (nI (4 * n)))] → W p l e room_1 s m args below meth c H1 locs1 (cells + k) (slots + 6 * k) Q (F0 m 2989 ls1 [])) : W p l e room_1 s m args below meth c H locs cells slots Q (F0 m 2642 ls []) := by
  have hx := C.1.1
  have hb := C.1.2.1
  refine lv_aload_n hx hb dL_law_2642 rfl (lv_at hl 1 rfl) ?_
  refine lw_arg C hX hbl hbA hS 1 (by omega) hL (lv_at hl 0 rfl) (lv_at hl 5 rfl) (by decide) dL_law_2643 dL_law_2644 dL_law_2646 dL_law_2647 dL_law_2648 ?_
  refine lv_aload_n hx hb dL_law_2649 rfl (lv_at hl 3 rfl) ?_
  refine g_cxi (vx_runSX (hh := [(0, 9, 12, 13)]) (As := [.ref (ad G 715), .int (xs (4 * n + 1)), .ref (ad G 735)]) (rest := []) C.1 (hL_outputAt l G X (xs (4 * n + 1)) hM hmem) (vx_cwSW 3 C.1.2.2.2.2 (gSW0 qw_1320 qw_1321 qw_70 lW_outputAt) rfl rfl rfl (by decide +kernel) ⟨by show f + 1 + 1 ≤ 2048; omega, by show 8 + (4 + 11) + (n1 + 21) ≤ 94400; omega⟩) (g_pre C hW hS [.ref (ad G 715), .int (xs (4 * n + 1)), .ref (ad G 735)]) rfl rfl hl.1 rfl (lv_room (Nat.le_of_ble_eq_true rfl)) dL_law_2650 ⟨hc, hs⟩) hS (fun _ _ _ _ _ _ _ _ h => h.elim) ?_
  intro k9 Y H1 locs1 hW1 hS1 hp
  refine lv_istore hx hb dL_law_2653 hl (by decide) rfl (fun ls1 hl1 => ?_)
  replace hl1 : lv_has ls1 10 [(6, .int k9), (0, .ref b), (1, .ref (ad G 715)), (2, .ref (ad G 723)), (3, .ref (ad G 735)), (4, .ref (ad G 736)), (5, .int (nI (4 * n)))] := hl1
  refine lv_aload_n hx hb dL_law_2655 rfl (lv_at hl1 3 rfl) ?_
  refine lw_arg C hX hbl hbA hS1 1 (by omega) hL (lv_at hl1 1 rfl) (lv_at hl1 6 rfl) (by decide) dL_law_2656 dL_law_2657 dL_law_2659 dL_law_2660 dL_law_2661 ?_
  refine g_calli (va_runV (As := [.int (xs (4 * n + 1))]) (rest := []) C.1 (hM2 k9 Y hp) (cwV 1 C.1.2.2.2.2 (gV0 qw_1875 qw_1876 qw_1877 qw_81 qw_1878) rfl rfl rfl (by decide +kernel) ⟨by show f2 + 1 ≤ 2048; omega, by show 8 + (2 + 11) + n2 ≤ 94400; omega⟩) (g_rModel C hW1 hS1 [.int (xs (4 * n + 1))]) rfl rfl hl1.1 rfl (lv_room (Nat.le_of_ble_eq_true rfl)) dL_law_2662 ⟨hc, hs⟩) hS1 (fun r Z H2 locs2 hW2 hS2 hp2 => ?_)
  refine lv_istore hx hb dL_law_2665 hl1 (by decide) rfl (fun ls2 hl2 => ?_)
  replace hl2 : lv_has ls2 10 [(7, .int r), (6, .int k9), (0, .ref b), (1, .ref (ad G 715)), (2, .ref (ad G 723)), (3, .ref (ad G 735)), (4, .ref (ad G 736)), (5, .int (nI (4 * n)))] := hl2
  obtain ⟨hs1, hs2⟩ := hstep k9 Y hp r Z hp2
  exact lw_cmp C hW2 hS2 hl2.1 (lv_at hl2 4 rfl) (lv_at hl2 5 rfl) (lv_at hl2 1 rfl) (lv_at hl2 0 rfl) hs1 hs2 hc hs dL_law_2667 dL_law_2668 dL_law_2671 dL_law_2673 dL_law_2678 dL_law_2680 dL_law_2683 dL_law_2684 dL_law_2685 dL_law_2686 dL_law_2688 dL_law_2689 dL_law_2690 dL_law_2695 (by decide) (fun H3 locs3 h1 h2 => kk k9 Y hp r Z hp2 H3 locs3 ls2 h1 h2 hl2)
theorem lW_type : Cond.codeWith yL_type cL_type 4 (some .int) [(0, 9, 12, 15), (0, 9, 15, 29)] ∈ lw_all := lw_mem 1339 (by decide +kernel) (by decide +kernel)
set_option maxHeartbeats 2000000 in
theorem lC_type (C : Cx p m c cL_law 10 s args lw_all "FoundryLaw" G) (hX : va_X b L xs s s.heap) (hbl : b < s.heap.size) (hbA : ¬ Ab G b) (hS : va_S (Ab G) s.heap H locs) (hW : Wd G X H) {n : Nat} (hj : 4 * n + 3 < L) (hL : L < 2 ^ 31) (hl : lv_has ls 10 [(0, .ref b), (1, .ref (ad G 715)), (2, .ref (ad G 723)), (3, .ref (ad G 735)), (4, .ref (ad G 736)), (5, .int (nI (4 * n)))])
    {k f n1 f2 n2 : Nat} {post : Int32 → St → Prop} {postx : String → St → Prop} {post2 : St → Int32 → St → Prop} (hf : f ≤ 2000) (hn : n1 ≤ 94000) (hf2 : f2 ≤ 2000) (hn2 : n2 ≤ 94000) (hc : cells + k ≤ 714529) (hs : slots + 6 * k ≤ 6893124)
    (hM : MetXI l G k yX7_type (wsG yX7_type cX7_type 2 (some .int)) (rmk k f n1) [.ref (ad G 715), .int (((xs (4 * n + 1)).toUInt32 % 65536).toInt32)] X post postx) (hmem : ∀ (E : String) (Y : St), postx E Y → E ∈ ["java/lang/IllegalArgumentException", "java/lang/IllegalStateException"])
    (hM2 : ∀ (k9 : Int32) (Y : St), lpost ["java/lang/IllegalArgumentException", "java/lang/IllegalStateException"] id post postx k9 Y → MetI l G yX8_type (wsG yX8_type cX8_type 2 (some .int)) (rmz f2 n2) [.ref (ad G 723), .int (((xs (4 * n + 1)).toUInt32 % 65536).toInt32)] Y (post2 Y))
    (hstep : ∀ (k9 : Int32) (Y : St), lpost ["java/lang/IllegalArgumentException", "java/lang/IllegalStateException"] id post postx k9 Y → ∀ (r : Int32) (Z : St), post2 Y r Z → Z.1 15 0 = k9 ∧ (k9 = 0 → Z.1 27 0 = r))
    (kk : ∀ (k9 : Int32) (Y : St), lpost ["java/lang/IllegalArgumentException", "java/lang/IllegalStateException"] id post postx k9 Y → ∀ (r : Int32) (Z : St), post2 Y r Z → ∀ (H1 : Heap) (locs1 : List Loc) (ls1 : Array Slot), Wd G Z H1 → va_S (Ab G) s.heap H1 locs1 → lv_has ls1 10 [(7, .int r), (6, .int k9), (0, .ref b), (1, .ref (ad G 715)), (2, .ref (ad G 723)), (3, .ref (ad G 735)), (4, .ref (ad G 736)), (5, .int (nI (4 * n)))] → W p l e room_1 s m args below meth c H1 locs1 (cells + k) (slots + 6 * k) Q (F0 m 2989 ls1 [])) : W p l e room_1 s m args below meth c H locs cells slots Q (F0 m 2698 ls []) := by
  have hx := C.1.1
  have hb := C.1.2.1
  refine lv_aload_n hx hb dL_law_2698 rfl (lv_at hl 1 rfl) ?_
  refine lw_argc C hX hbl hbA hS 1 (by omega) hL (lv_at hl 0 rfl) (lv_at hl 5 rfl) (by decide) dL_law_2699 dL_law_2700 dL_law_2702 dL_law_2703 dL_law_2704 dL_law_2705 ?_
  refine lv_aload_n hx hb dL_law_2706 rfl (lv_at hl 3 rfl) ?_
  refine g_cxi (vx_runSX (hh := [(0, 9, 12, 15), (0, 9, 15, 29)]) (As := [.ref (ad G 715), .int (((xs (4 * n + 1)).toUInt32 % 65536).toInt32), .ref (ad G 735)]) (rest := []) C.1 (hL_type l G X (((xs (4 * n + 1)).toUInt32 % 65536).toInt32) hM hmem) (vx_cwSW 3 C.1.2.2.2.2 (gSW0 qw_1337 qw_1338 qw_70 lW_type) rfl rfl rfl (by decide +kernel) ⟨by show f + 1 + 1 ≤ 2048; omega, by show 8 + (4 + 11) + (n1 + 21) ≤ 94400; omega⟩) (g_pre C hW hS [.ref (ad G 715), .int (((xs (4 * n + 1)).toUInt32 % 65536).toInt32), .ref (ad G 735)]) rfl rfl hl.1 rfl (lv_room (Nat.le_of_ble_eq_true rfl)) dL_law_2707 ⟨hc, hs⟩) hS (fun _ _ _ _ _ _ _ _ h => h.elim) ?_
  intro k9 Y H1 locs1 hW1 hS1 hp
  refine lv_istore hx hb dL_law_2710 hl (by decide) rfl (fun ls1 hl1 => ?_)
  replace hl1 : lv_has ls1 10 [(6, .int k9), (0, .ref b), (1, .ref (ad G 715)), (2, .ref (ad G 723)), (3, .ref (ad G 735)), (4, .ref (ad G 736)), (5, .int (nI (4 * n)))] := hl1
  refine lv_aload_n hx hb dL_law_2712 rfl (lv_at hl1 3 rfl) ?_
  refine lw_argc C hX hbl hbA hS1 1 (by omega) hL (lv_at hl1 1 rfl) (lv_at hl1 6 rfl) (by decide) dL_law_2713 dL_law_2714 dL_law_2716 dL_law_2717 dL_law_2718 dL_law_2719 ?_
  refine g_calli (va_runV (As := [.int (((xs (4 * n + 1)).toUInt32 % 65536).toInt32)]) (rest := []) C.1 (hM2 k9 Y hp) (cwV 1 C.1.2.2.2.2 (gV0 qw_1879 qw_1880 qw_1881 qw_81 qw_1882) rfl rfl rfl (by decide +kernel) ⟨by show f2 + 1 ≤ 2048; omega, by show 8 + (2 + 11) + n2 ≤ 94400; omega⟩) (g_rModel C hW1 hS1 [.int (((xs (4 * n + 1)).toUInt32 % 65536).toInt32)]) rfl rfl hl1.1 rfl (lv_room (Nat.le_of_ble_eq_true rfl)) dL_law_2720 ⟨hc, hs⟩) hS1 (fun r Z H2 locs2 hW2 hS2 hp2 => ?_)
  refine lv_istore hx hb dL_law_2723 hl1 (by decide) rfl (fun ls2 hl2 => ?_)
  replace hl2 : lv_has ls2 10 [(7, .int r), (6, .int k9), (0, .ref b), (1, .ref (ad G 715)), (2, .ref (ad G 723)), (3, .ref (ad G 735)), (4, .ref (ad G 736)), (5, .int (nI (4 * n)))] := hl2
  obtain ⟨hs1, hs2⟩ := hstep k9 Y hp r Z hp2
  exact lw_cmp C hW2 hS2 hl2.1 (lv_at hl2 4 rfl) (lv_at hl2 5 rfl) (lv_at hl2 1 rfl) (lv_at hl2 0 rfl) hs1 hs2 hc hs dL_law_2725 dL_law_2726 dL_law_2729 dL_law_2731 dL_law_2736 dL_law_2738 dL_law_2741 dL_law_2742 dL_law_2743 dL_law_2744 dL_law_2746 dL_law_2747 dL_law_2748 dL_law_2753 (by decide) (fun H3 locs3 h1 h2 => kk k9 Y hp r Z hp2 H3 locs3 ls2 h1 h2 hl2)
theorem lW_runScript : Cond.codeWith yL_runScript cL_runScript 3 (some .int) [(0, 8, 11, 15), (0, 8, 14, 29)] ∈ lw_all := lw_mem 1350 (by decide +kernel) (by decide +kernel)
set_option maxHeartbeats 2000000 in
theorem lC_runScript (C : Cx p m c cL_law 10 s args lw_all "FoundryLaw" G) (hX : va_X b L xs s s.heap) (hbl : b < s.heap.size) (hbA : ¬ Ab G b) (hS : va_S (Ab G) s.heap H locs) (hW : Wd G X H) {n : Nat} (hj : 4 * n + 3 < L) (hL : L < 2 ^ 31) (hl : lv_has ls 10 [(0, .ref b), (1, .ref (ad G 715)), (2, .ref (ad G 723)), (3, .ref (ad G 735)), (4, .ref (ad G 736)), (5, .int (nI (4 * n)))])
    {k f n1 f2 n2 : Nat} {post : Int32 → St → Prop} {postx : String → St → Prop} {post2 : St → Int32 → St → Prop} (hf : f ≤ 2000) (hn : n1 ≤ 94000) (hf2 : f2 ≤ 2000) (hn2 : n2 ≤ 94000) (hc : cells + k ≤ 714529) (hs : slots + 6 * k ≤ 6893124)
    (hM : MetXI l G k yX7_runScript (wsG yX7_runScript cX7_runScript 3 (some .int)) (rmk k f n1) [.ref (ad G 715)] X post postx) (hmem : ∀ (E : String) (Y : St), postx E Y → E ∈ ["java/lang/IllegalArgumentException", "java/lang/IllegalStateException"])
    (hM2 : ∀ (k9 : Int32) (Y : St), lpost ["java/lang/IllegalArgumentException", "java/lang/IllegalStateException"] id post postx k9 Y → MetI l G yX8_runScript (wsG yX8_runScript cX8_runScript 2 (some .int)) (rmz f2 n2) [.ref (ad G 723)] Y (post2 Y))
    (hstep : ∀ (k9 : Int32) (Y : St), lpost ["java/lang/IllegalArgumentException", "java/lang/IllegalStateException"] id post postx k9 Y → ∀ (r : Int32) (Z : St), post2 Y r Z → Z.1 15 0 = k9 ∧ (k9 = 0 → Z.1 27 0 = r))
    (kk : ∀ (k9 : Int32) (Y : St), lpost ["java/lang/IllegalArgumentException", "java/lang/IllegalStateException"] id post postx k9 Y → ∀ (r : Int32) (Z : St), post2 Y r Z → ∀ (H1 : Heap) (locs1 : List Loc) (ls1 : Array Slot), Wd G Z H1 → va_S (Ab G) s.heap H1 locs1 → lv_has ls1 10 [(7, .int r), (6, .int k9), (0, .ref b), (1, .ref (ad G 715)), (2, .ref (ad G 723)), (3, .ref (ad G 735)), (4, .ref (ad G 736)), (5, .int (nI (4 * n)))] → W p l e room_1 s m args below meth c H1 locs1 (cells + k) (slots + 6 * k) Q (F0 m 2989 ls1 [])) : W p l e room_1 s m args below meth c H locs cells slots Q (F0 m 2756 ls []) := by
  have hx := C.1.1
  have hb := C.1.2.1
  refine lv_aload_n hx hb dL_law_2756 rfl (lv_at hl 1 rfl) ?_
  refine lv_aload_n hx hb dL_law_2757 rfl (lv_at hl 3 rfl) ?_
  refine g_cxi (vx_runSX (hh := [(0, 8, 11, 15), (0, 8, 14, 29)]) (As := [.ref (ad G 715), .ref (ad G 735)]) (rest := []) C.1 (hL_runScript l G X  hM hmem) (vx_cwSW 2 C.1.2.2.2.2 (gSW0 qw_1348 qw_1349 qw_70 lW_runScript) rfl rfl rfl (by decide +kernel) ⟨by show f + 1 + 1 ≤ 2048; omega, by show 8 + (3 + 11) + (n1 + 22) ≤ 94400; omega⟩) (g_pre C hW hS [.ref (ad G 715), .ref (ad G 735)]) rfl rfl hl.1 rfl (lv_room (Nat.le_of_ble_eq_true rfl)) dL_law_2758 ⟨hc, hs⟩) hS (fun _ _ _ _ _ _ _ _ h => h.elim) ?_
  intro k9 Y H1 locs1 hW1 hS1 hp
  refine lv_istore hx hb dL_law_2761 hl (by decide) rfl (fun ls1 hl1 => ?_)
  replace hl1 : lv_has ls1 10 [(6, .int k9), (0, .ref b), (1, .ref (ad G 715)), (2, .ref (ad G 723)), (3, .ref (ad G 735)), (4, .ref (ad G 736)), (5, .int (nI (4 * n)))] := hl1
  refine lv_aload_n hx hb dL_law_2763 rfl (lv_at hl1 3 rfl) ?_
  refine g_calli (va_runV (As := []) (rest := []) C.1 (hM2 k9 Y hp) (cwV 0 C.1.2.2.2.2 (gV0 qw_1883 qw_1884 qw_1885 qw_81 qw_1886) rfl rfl rfl (by decide +kernel) ⟨by show f2 + 1 ≤ 2048; omega, by show 8 + (2 + 11) + n2 ≤ 94400; omega⟩) (g_rModel C hW1 hS1 []) rfl rfl hl1.1 rfl (lv_room (Nat.le_of_ble_eq_true rfl)) dL_law_2764 ⟨hc, hs⟩) hS1 (fun r Z H2 locs2 hW2 hS2 hp2 => ?_)
  refine lv_istore hx hb dL_law_2767 hl1 (by decide) rfl (fun ls2 hl2 => ?_)
  replace hl2 : lv_has ls2 10 [(7, .int r), (6, .int k9), (0, .ref b), (1, .ref (ad G 715)), (2, .ref (ad G 723)), (3, .ref (ad G 735)), (4, .ref (ad G 736)), (5, .int (nI (4 * n)))] := hl2
  obtain ⟨hs1, hs2⟩ := hstep k9 Y hp r Z hp2
  exact lw_cmp C hW2 hS2 hl2.1 (lv_at hl2 4 rfl) (lv_at hl2 5 rfl) (lv_at hl2 1 rfl) (lv_at hl2 0 rfl) hs1 hs2 hc hs dL_law_2769 dL_law_2770 dL_law_2773 dL_law_2775 dL_law_2780 dL_law_2782 dL_law_2785 dL_law_2786 dL_law_2787 dL_law_2788 dL_law_2790 dL_law_2791 dL_law_2792 dL_law_2797 (by decide) (fun H3 locs3 h1 h2 => kk k9 Y hp r Z hp2 H3 locs3 ls2 h1 h2 hl2)
theorem lW_errorPosition : Cond.codeWith yL_errorPosition cL_errorPosition 3 (some .int) [(0, 8, 11, 27)] ∈ lw_all := lw_mem 1429 (by decide +kernel) (by decide +kernel)
set_option maxHeartbeats 2000000 in
theorem lC_errorPosition (C : Cx p m c cL_law 10 s args lw_all "FoundryLaw" G) (hX : va_X b L xs s s.heap) (hbl : b < s.heap.size) (hbA : ¬ Ab G b) (hS : va_S (Ab G) s.heap H locs) (hW : Wd G X H) {n : Nat} (hj : 4 * n + 3 < L) (hL : L < 2 ^ 31) (hl : lv_has ls 10 [(0, .ref b), (1, .ref (ad G 715)), (2, .ref (ad G 723)), (3, .ref (ad G 735)), (4, .ref (ad G 736)), (5, .int (nI (4 * n)))])
    {k f n1 f2 n2 : Nat} {post : Int32 → St → Prop} {postx : String → St → Prop} {post2 : St → Int32 → St → Prop} (hf : f ≤ 2000) (hn : n1 ≤ 94000) (hf2 : f2 ≤ 2000) (hn2 : n2 ≤ 94000) (hc : cells + k ≤ 714529) (hs : slots + 6 * k ≤ 6893124)
    (hM : MetXI l G k yX7_errorPosition (wsG yX7_errorPosition cX7_errorPosition 1 (some .int)) (rmk k f n1) [.ref (ad G 715)] X post postx) (hmem : ∀ (E : String) (Y : St), postx E Y → E ∈ ["java/util/NoSuchElementException"])
    (hM2 : ∀ (k9 : Int32) (Y : St), lpost ["java/util/NoSuchElementException"] id post postx k9 Y → MetI l G yX8_errorPosition (wsG yX8_errorPosition cX8_errorPosition 1 (some .int)) (rmz f2 n2) [.ref (ad G 723)] Y (post2 Y))
    (hstep : ∀ (k9 : Int32) (Y : St), lpost ["java/util/NoSuchElementException"] id post postx k9 Y → ∀ (r : Int32) (Z : St), post2 Y r Z → Z.1 15 0 = k9 ∧ (k9 = 0 → Z.1 27 0 = r))
    (kk : ∀ (k9 : Int32) (Y : St), lpost ["java/util/NoSuchElementException"] id post postx k9 Y → ∀ (r : Int32) (Z : St), post2 Y r Z → ∀ (H1 : Heap) (locs1 : List Loc) (ls1 : Array Slot), Wd G Z H1 → va_S (Ab G) s.heap H1 locs1 → lv_has ls1 10 [(7, .int r), (6, .int k9), (0, .ref b), (1, .ref (ad G 715)), (2, .ref (ad G 723)), (3, .ref (ad G 735)), (4, .ref (ad G 736)), (5, .int (nI (4 * n)))] → W p l e room_1 s m args below meth c H1 locs1 (cells + k) (slots + 6 * k) Q (F0 m 2989 ls1 [])) : W p l e room_1 s m args below meth c H locs cells slots Q (F0 m 2800 ls []) := by
  have hx := C.1.1
  have hb := C.1.2.1
  refine lv_aload_n hx hb dL_law_2800 rfl (lv_at hl 1 rfl) ?_
  refine lv_aload_n hx hb dL_law_2801 rfl (lv_at hl 3 rfl) ?_
  refine g_cxi (vx_runSX (hh := [(0, 8, 11, 27)]) (As := [.ref (ad G 715), .ref (ad G 735)]) (rest := []) C.1 (hL_errorPosition l G X  hM hmem) (vx_cwSW 2 C.1.2.2.2.2 (gSW0 qw_1427 qw_1428 qw_70 lW_errorPosition) rfl rfl rfl (by decide +kernel) ⟨by show f + 1 + 1 ≤ 2048; omega, by show 8 + (3 + 11) + (n1 + 20) ≤ 94400; omega⟩) (g_pre C hW hS [.ref (ad G 715), .ref (ad G 735)]) rfl rfl hl.1 rfl (lv_room (Nat.le_of_ble_eq_true rfl)) dL_law_2802 ⟨hc, hs⟩) hS (fun _ _ _ _ _ _ _ _ h => h.elim) ?_
  intro k9 Y H1 locs1 hW1 hS1 hp
  refine lv_istore hx hb dL_law_2805 hl (by decide) rfl (fun ls1 hl1 => ?_)
  replace hl1 : lv_has ls1 10 [(6, .int k9), (0, .ref b), (1, .ref (ad G 715)), (2, .ref (ad G 723)), (3, .ref (ad G 735)), (4, .ref (ad G 736)), (5, .int (nI (4 * n)))] := hl1
  refine lv_aload_n hx hb dL_law_2807 rfl (lv_at hl1 3 rfl) ?_
  refine g_calli (va_runV (As := []) (rest := []) C.1 (hM2 k9 Y hp) (cwV 0 C.1.2.2.2.2 (gV0 qw_1923 qw_1924 qw_1925 qw_81 qw_1926) rfl rfl rfl (by decide +kernel) ⟨by show f2 + 1 ≤ 2048; omega, by show 8 + (1 + 11) + n2 ≤ 94400; omega⟩) (g_rModel C hW1 hS1 []) rfl rfl hl1.1 rfl (lv_room (Nat.le_of_ble_eq_true rfl)) dL_law_2808 ⟨hc, hs⟩) hS1 (fun r Z H2 locs2 hW2 hS2 hp2 => ?_)
  refine lv_istore hx hb dL_law_2811 hl1 (by decide) rfl (fun ls2 hl2 => ?_)
  replace hl2 : lv_has ls2 10 [(7, .int r), (6, .int k9), (0, .ref b), (1, .ref (ad G 715)), (2, .ref (ad G 723)), (3, .ref (ad G 735)), (4, .ref (ad G 736)), (5, .int (nI (4 * n)))] := hl2
  obtain ⟨hs1, hs2⟩ := hstep k9 Y hp r Z hp2
  exact lw_cmp C hW2 hS2 hl2.1 (lv_at hl2 4 rfl) (lv_at hl2 5 rfl) (lv_at hl2 1 rfl) (lv_at hl2 0 rfl) hs1 hs2 hc hs dL_law_2813 dL_law_2814 dL_law_2817 dL_law_2819 dL_law_2824 dL_law_2826 dL_law_2829 dL_law_2830 dL_law_2831 dL_law_2832 dL_law_2834 dL_law_2835 dL_law_2836 dL_law_2841 (by decide) (fun H3 locs3 h1 h2 => kk k9 Y hp r Z hp2 H3 locs3 ls2 h1 h2 hl2)
theorem lW_failedCommand : Cond.codeWith yL_failedCommand cL_failedCommand 3 (some .int) [(0, 8, 11, 27)] ∈ lw_all := lw_mem 1436 (by decide +kernel) (by decide +kernel)
set_option maxHeartbeats 2000000 in
theorem lC_failedCommand (C : Cx p m c cL_law 10 s args lw_all "FoundryLaw" G) (hX : va_X b L xs s s.heap) (hbl : b < s.heap.size) (hbA : ¬ Ab G b) (hS : va_S (Ab G) s.heap H locs) (hW : Wd G X H) {n : Nat} (hj : 4 * n + 3 < L) (hL : L < 2 ^ 31) (hl : lv_has ls 10 [(0, .ref b), (1, .ref (ad G 715)), (2, .ref (ad G 723)), (3, .ref (ad G 735)), (4, .ref (ad G 736)), (5, .int (nI (4 * n)))])
    {k f n1 f2 n2 : Nat} {post : Int32 → St → Prop} {postx : String → St → Prop} {post2 : St → Int32 → St → Prop} (hf : f ≤ 2000) (hn : n1 ≤ 94000) (hf2 : f2 ≤ 2000) (hn2 : n2 ≤ 94000) (hc : cells + k ≤ 714529) (hs : slots + 6 * k ≤ 6893124)
    (hM : MetXI l G k yX7_failedCommand (wsG yX7_failedCommand cX7_failedCommand 1 (some .int)) (rmk k f n1) [.ref (ad G 715)] X post postx) (hmem : ∀ (E : String) (Y : St), postx E Y → E ∈ ["java/util/NoSuchElementException"])
    (hM2 : ∀ (k9 : Int32) (Y : St), lpost ["java/util/NoSuchElementException"] id post postx k9 Y → MetI l G yX8_failedCommand (wsG yX8_failedCommand cX8_failedCommand 1 (some .int)) (rmz f2 n2) [.ref (ad G 723)] Y (post2 Y))
    (hstep : ∀ (k9 : Int32) (Y : St), lpost ["java/util/NoSuchElementException"] id post postx k9 Y → ∀ (r : Int32) (Z : St), post2 Y r Z → Z.1 15 0 = k9 ∧ (k9 = 0 → Z.1 27 0 = r))
    (kk : ∀ (k9 : Int32) (Y : St), lpost ["java/util/NoSuchElementException"] id post postx k9 Y → ∀ (r : Int32) (Z : St), post2 Y r Z → ∀ (H1 : Heap) (locs1 : List Loc) (ls1 : Array Slot), Wd G Z H1 → va_S (Ab G) s.heap H1 locs1 → lv_has ls1 10 [(7, .int r), (6, .int k9), (0, .ref b), (1, .ref (ad G 715)), (2, .ref (ad G 723)), (3, .ref (ad G 735)), (4, .ref (ad G 736)), (5, .int (nI (4 * n)))] → W p l e room_1 s m args below meth c H1 locs1 (cells + k) (slots + 6 * k) Q (F0 m 2989 ls1 [])) : W p l e room_1 s m args below meth c H locs cells slots Q (F0 m 2844 ls []) := by
  have hx := C.1.1
  have hb := C.1.2.1
  refine lv_aload_n hx hb dL_law_2844 rfl (lv_at hl 1 rfl) ?_
  refine lv_aload_n hx hb dL_law_2845 rfl (lv_at hl 3 rfl) ?_
  refine g_cxi (vx_runSX (hh := [(0, 8, 11, 27)]) (As := [.ref (ad G 715), .ref (ad G 735)]) (rest := []) C.1 (hL_failedCommand l G X  hM hmem) (vx_cwSW 2 C.1.2.2.2.2 (gSW0 qw_1434 qw_1435 qw_70 lW_failedCommand) rfl rfl rfl (by decide +kernel) ⟨by show f + 1 + 1 ≤ 2048; omega, by show 8 + (3 + 11) + (n1 + 20) ≤ 94400; omega⟩) (g_pre C hW hS [.ref (ad G 715), .ref (ad G 735)]) rfl rfl hl.1 rfl (lv_room (Nat.le_of_ble_eq_true rfl)) dL_law_2846 ⟨hc, hs⟩) hS (fun _ _ _ _ _ _ _ _ h => h.elim) ?_
  intro k9 Y H1 locs1 hW1 hS1 hp
  refine lv_istore hx hb dL_law_2849 hl (by decide) rfl (fun ls1 hl1 => ?_)
  replace hl1 : lv_has ls1 10 [(6, .int k9), (0, .ref b), (1, .ref (ad G 715)), (2, .ref (ad G 723)), (3, .ref (ad G 735)), (4, .ref (ad G 736)), (5, .int (nI (4 * n)))] := hl1
  refine lv_aload_n hx hb dL_law_2851 rfl (lv_at hl1 3 rfl) ?_
  refine g_calli (va_runV (As := []) (rest := []) C.1 (hM2 k9 Y hp) (cwV 0 C.1.2.2.2.2 (gV0 qw_1927 qw_1928 qw_1929 qw_81 qw_1930) rfl rfl rfl (by decide +kernel) ⟨by show f2 + 1 ≤ 2048; omega, by show 8 + (1 + 11) + n2 ≤ 94400; omega⟩) (g_rModel C hW1 hS1 []) rfl rfl hl1.1 rfl (lv_room (Nat.le_of_ble_eq_true rfl)) dL_law_2852 ⟨hc, hs⟩) hS1 (fun r Z H2 locs2 hW2 hS2 hp2 => ?_)
  refine lv_istore hx hb dL_law_2855 hl1 (by decide) rfl (fun ls2 hl2 => ?_)
  replace hl2 : lv_has ls2 10 [(7, .int r), (6, .int k9), (0, .ref b), (1, .ref (ad G 715)), (2, .ref (ad G 723)), (3, .ref (ad G 735)), (4, .ref (ad G 736)), (5, .int (nI (4 * n)))] := hl2
  obtain ⟨hs1, hs2⟩ := hstep k9 Y hp r Z hp2
  exact lw_cmp C hW2 hS2 hl2.1 (lv_at hl2 4 rfl) (lv_at hl2 5 rfl) (lv_at hl2 1 rfl) (lv_at hl2 0 rfl) hs1 hs2 hc hs dL_law_2857 dL_law_2858 dL_law_2861 dL_law_2863 dL_law_2868 dL_law_2870 dL_law_2873 dL_law_2874 dL_law_2875 dL_law_2876 dL_law_2878 dL_law_2879 dL_law_2880 dL_law_2885 (by decide) (fun H3 locs3 h1 h2 => kk k9 Y hp r Z hp2 H3 locs3 ls2 h1 h2 hl2)
theorem lW_undo : Cond.codeWith yL_undo cL_undo 3 (some .int) [(0, 8, 11, 27)] ∈ lw_all := lw_mem 1443 (by decide +kernel) (by decide +kernel)
set_option maxHeartbeats 2000000 in
theorem lC_undo (C : Cx p m c cL_law 10 s args lw_all "FoundryLaw" G) (hX : va_X b L xs s s.heap) (hbl : b < s.heap.size) (hbA : ¬ Ab G b) (hS : va_S (Ab G) s.heap H locs) (hW : Wd G X H) {n : Nat} (hj : 4 * n + 3 < L) (hL : L < 2 ^ 31) (hl : lv_has ls 10 [(0, .ref b), (1, .ref (ad G 715)), (2, .ref (ad G 723)), (3, .ref (ad G 735)), (4, .ref (ad G 736)), (5, .int (nI (4 * n)))])
    {k f n1 f2 n2 : Nat} {post : Int32 → St → Prop} {postx : String → St → Prop} {post2 : St → Int32 → St → Prop} (hf : f ≤ 2000) (hn : n1 ≤ 94000) (hf2 : f2 ≤ 2000) (hn2 : n2 ≤ 94000) (hc : cells + k ≤ 714529) (hs : slots + 6 * k ≤ 6893124)
    (hM : MetXI l G k yX7_undo (wsG yX7_undo cX7_undo 1 (some .int)) (rmk k f n1) [.ref (ad G 715)] X post postx) (hmem : ∀ (E : String) (Y : St), postx E Y → E ∈ ["java/util/NoSuchElementException"])
    (hM2 : ∀ (k9 : Int32) (Y : St), lpost ["java/util/NoSuchElementException"] id post postx k9 Y → MetI l G yX8_undo (wsG yX8_undo cX8_undo 2 (some .int)) (rmz f2 n2) [.ref (ad G 723)] Y (post2 Y))
    (hstep : ∀ (k9 : Int32) (Y : St), lpost ["java/util/NoSuchElementException"] id post postx k9 Y → ∀ (r : Int32) (Z : St), post2 Y r Z → Z.1 15 0 = k9 ∧ (k9 = 0 → Z.1 27 0 = r))
    (kk : ∀ (k9 : Int32) (Y : St), lpost ["java/util/NoSuchElementException"] id post postx k9 Y → ∀ (r : Int32) (Z : St), post2 Y r Z → ∀ (H1 : Heap) (locs1 : List Loc) (ls1 : Array Slot), Wd G Z H1 → va_S (Ab G) s.heap H1 locs1 → lv_has ls1 10 [(7, .int r), (6, .int k9), (0, .ref b), (1, .ref (ad G 715)), (2, .ref (ad G 723)), (3, .ref (ad G 735)), (4, .ref (ad G 736)), (5, .int (nI (4 * n)))] → W p l e room_1 s m args below meth c H1 locs1 (cells + k) (slots + 6 * k) Q (F0 m 2989 ls1 [])) : W p l e room_1 s m args below meth c H locs cells slots Q (F0 m 2888 ls []) := by
  have hx := C.1.1
  have hb := C.1.2.1
  refine lv_aload_n hx hb dL_law_2888 rfl (lv_at hl 1 rfl) ?_
  refine lv_aload_n hx hb dL_law_2889 rfl (lv_at hl 3 rfl) ?_
  refine g_cxi (vx_runSX (hh := [(0, 8, 11, 27)]) (As := [.ref (ad G 715), .ref (ad G 735)]) (rest := []) C.1 (hL_undo l G X  hM hmem) (vx_cwSW 2 C.1.2.2.2.2 (gSW0 qw_1441 qw_1442 qw_70 lW_undo) rfl rfl rfl (by decide +kernel) ⟨by show f + 1 + 1 ≤ 2048; omega, by show 8 + (3 + 11) + (n1 + 20) ≤ 94400; omega⟩) (g_pre C hW hS [.ref (ad G 715), .ref (ad G 735)]) rfl rfl hl.1 rfl (lv_room (Nat.le_of_ble_eq_true rfl)) dL_law_2890 ⟨hc, hs⟩) hS (fun _ _ _ _ _ _ _ _ h => h.elim) ?_
  intro k9 Y H1 locs1 hW1 hS1 hp
  refine lv_istore hx hb dL_law_2893 hl (by decide) rfl (fun ls1 hl1 => ?_)
  replace hl1 : lv_has ls1 10 [(6, .int k9), (0, .ref b), (1, .ref (ad G 715)), (2, .ref (ad G 723)), (3, .ref (ad G 735)), (4, .ref (ad G 736)), (5, .int (nI (4 * n)))] := hl1
  refine lv_aload_n hx hb dL_law_2895 rfl (lv_at hl1 3 rfl) ?_
  refine g_calli (va_runV (As := []) (rest := []) C.1 (hM2 k9 Y hp) (cwV 0 C.1.2.2.2.2 (gV0 qw_1931 qw_1932 qw_1933 qw_81 qw_1934) rfl rfl rfl (by decide +kernel) ⟨by show f2 + 1 ≤ 2048; omega, by show 8 + (2 + 11) + n2 ≤ 94400; omega⟩) (g_rModel C hW1 hS1 []) rfl rfl hl1.1 rfl (lv_room (Nat.le_of_ble_eq_true rfl)) dL_law_2896 ⟨hc, hs⟩) hS1 (fun r Z H2 locs2 hW2 hS2 hp2 => ?_)
  refine lv_istore hx hb dL_law_2899 hl1 (by decide) rfl (fun ls2 hl2 => ?_)
  replace hl2 : lv_has ls2 10 [(7, .int r), (6, .int k9), (0, .ref b), (1, .ref (ad G 715)), (2, .ref (ad G 723)), (3, .ref (ad G 735)), (4, .ref (ad G 736)), (5, .int (nI (4 * n)))] := hl2
  obtain ⟨hs1, hs2⟩ := hstep k9 Y hp r Z hp2
  exact lw_cmp C hW2 hS2 hl2.1 (lv_at hl2 4 rfl) (lv_at hl2 5 rfl) (lv_at hl2 1 rfl) (lv_at hl2 0 rfl) hs1 hs2 hc hs dL_law_2901 dL_law_2902 dL_law_2905 dL_law_2907 dL_law_2912 dL_law_2914 dL_law_2917 dL_law_2918 dL_law_2919 dL_law_2920 dL_law_2922 dL_law_2923 dL_law_2924 dL_law_2929 (by decide) (fun H3 locs3 h1 h2 => kk k9 Y hp r Z hp2 H3 locs3 ls2 h1 h2 hl2)
theorem lW_restore : Cond.codeWith yL_restore cL_restore 3 (some .int) [(0, 8, 11, 29)] ∈ lw_all := lw_mem 1455 (by decide +kernel) (by decide +kernel)
set_option maxHeartbeats 2000000 in
theorem lC_restore (C : Cx p m c cL_law 10 s args lw_all "FoundryLaw" G) (hX : va_X b L xs s s.heap) (hbl : b < s.heap.size) (hbA : ¬ Ab G b) (hS : va_S (Ab G) s.heap H locs) (hW : Wd G X H) {n : Nat} (hj : 4 * n + 3 < L) (hL : L < 2 ^ 31) (hl : lv_has ls 10 [(0, .ref b), (1, .ref (ad G 715)), (2, .ref (ad G 723)), (3, .ref (ad G 735)), (4, .ref (ad G 736)), (5, .int (nI (4 * n)))])
    {k f n1 f2 n2 : Nat} {post : Int32 → St → Prop} {postx : String → St → Prop} {post2 : St → Int32 → St → Prop} (hf : f ≤ 2000) (hn : n1 ≤ 94000) (hf2 : f2 ≤ 2000) (hn2 : n2 ≤ 94000) (hc : cells + k ≤ 714529) (hs : slots + 6 * k ≤ 6893124)
    (hM : MetXI l G k yX7_restore (wsG yX7_restore cX7_restore 1 (some .int)) (rmk k f n1) [.ref (ad G 715)] X post postx) (hmem : ∀ (E : String) (Y : St), postx E Y → E ∈ ["java/lang/IllegalStateException"])
    (hM2 : ∀ (k9 : Int32) (Y : St), lpost ["java/lang/IllegalStateException"] id post postx k9 Y → MetI l G yX8_restore (wsG yX8_restore cX8_restore 1 (some .int)) (rmz f2 n2) [.ref (ad G 723)] Y (post2 Y))
    (hstep : ∀ (k9 : Int32) (Y : St), lpost ["java/lang/IllegalStateException"] id post postx k9 Y → ∀ (r : Int32) (Z : St), post2 Y r Z → Z.1 15 0 = k9 ∧ (k9 = 0 → Z.1 27 0 = r))
    (kk : ∀ (k9 : Int32) (Y : St), lpost ["java/lang/IllegalStateException"] id post postx k9 Y → ∀ (r : Int32) (Z : St), post2 Y r Z → ∀ (H1 : Heap) (locs1 : List Loc) (ls1 : Array Slot), Wd G Z H1 → va_S (Ab G) s.heap H1 locs1 → lv_has ls1 10 [(7, .int r), (6, .int k9), (0, .ref b), (1, .ref (ad G 715)), (2, .ref (ad G 723)), (3, .ref (ad G 735)), (4, .ref (ad G 736)), (5, .int (nI (4 * n)))] → W p l e room_1 s m args below meth c H1 locs1 (cells + k) (slots + 6 * k) Q (F0 m 2989 ls1 [])) : W p l e room_1 s m args below meth c H locs cells slots Q (F0 m 2945 ls []) := by
  have hx := C.1.1
  have hb := C.1.2.1
  refine lv_aload_n hx hb dL_law_2945 rfl (lv_at hl 1 rfl) ?_
  refine lv_aload_n hx hb dL_law_2946 rfl (lv_at hl 3 rfl) ?_
  refine g_cxi (vx_runSX (hh := [(0, 8, 11, 29)]) (As := [.ref (ad G 715), .ref (ad G 735)]) (rest := []) C.1 (hL_restore l G X  hM hmem) (vx_cwSW 2 C.1.2.2.2.2 (gSW0 qw_1453 qw_1454 qw_70 lW_restore) rfl rfl rfl (by decide +kernel) ⟨by show f + 1 + 1 ≤ 2048; omega, by show 8 + (3 + 11) + (n1 + 20) ≤ 94400; omega⟩) (g_pre C hW hS [.ref (ad G 715), .ref (ad G 735)]) rfl rfl hl.1 rfl (lv_room (Nat.le_of_ble_eq_true rfl)) dL_law_2947 ⟨hc, hs⟩) hS (fun _ _ _ _ _ _ _ _ h => h.elim) ?_
  intro k9 Y H1 locs1 hW1 hS1 hp
  refine lv_istore hx hb dL_law_2950 hl (by decide) rfl (fun ls1 hl1 => ?_)
  replace hl1 : lv_has ls1 10 [(6, .int k9), (0, .ref b), (1, .ref (ad G 715)), (2, .ref (ad G 723)), (3, .ref (ad G 735)), (4, .ref (ad G 736)), (5, .int (nI (4 * n)))] := hl1
  refine lv_aload_n hx hb dL_law_2952 rfl (lv_at hl1 3 rfl) ?_
  refine g_calli (va_runV (As := []) (rest := []) C.1 (hM2 k9 Y hp) (cwV 0 C.1.2.2.2.2 (gV0 qw_1939 qw_1940 qw_1941 qw_81 qw_1942) rfl rfl rfl (by decide +kernel) ⟨by show f2 + 1 ≤ 2048; omega, by show 8 + (1 + 11) + n2 ≤ 94400; omega⟩) (g_rModel C hW1 hS1 []) rfl rfl hl1.1 rfl (lv_room (Nat.le_of_ble_eq_true rfl)) dL_law_2953 ⟨hc, hs⟩) hS1 (fun r Z H2 locs2 hW2 hS2 hp2 => ?_)
  refine lv_istore hx hb dL_law_2956 hl1 (by decide) rfl (fun ls2 hl2 => ?_)
  replace hl2 : lv_has ls2 10 [(7, .int r), (6, .int k9), (0, .ref b), (1, .ref (ad G 715)), (2, .ref (ad G 723)), (3, .ref (ad G 735)), (4, .ref (ad G 736)), (5, .int (nI (4 * n)))] := hl2
  obtain ⟨hs1, hs2⟩ := hstep k9 Y hp r Z hp2
  exact lw_cmp C hW2 hS2 hl2.1 (lv_at hl2 4 rfl) (lv_at hl2 5 rfl) (lv_at hl2 1 rfl) (lv_at hl2 0 rfl) hs1 hs2 hc hs dL_law_2958 dL_law_2959 dL_law_2962 dL_law_2964 dL_law_2969 dL_law_2971 dL_law_2974 dL_law_2975 dL_law_2976 dL_law_2977 dL_law_2979 dL_law_2980 dL_law_2981 dL_law_2986 (by decide) (fun H3 locs3 h1 h2 => kk k9 Y hp r Z hp2 H3 locs3 ls2 h1 h2 hl2)
end LK
