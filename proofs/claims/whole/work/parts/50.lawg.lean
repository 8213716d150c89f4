/-! The law's case of meanTemperature: two doubles. -/
section LG
variable {p : Program} {l : Launch} {e : Env} {s : State} {m : MethodId} {args : Array Value} {below : List Frame} {meth : Method} {c : Code} {H : Heap} {locs : List Loc} {cells slots : Nat} {Q : State → Prop}
variable {ls : Array Slot} {G : GT} {X : St} {b : Nat}
theorem g_calld {R : Room} {pc : Nat} {st0 rest : List Value} {a : Array Value} {post : UInt64 → St → Prop} (hr : va_Run p l e R s m args below meth c H locs cells slots 0 0 (F0 m pc ls st0) rest (Kd G post a) (Ab G)) (hS : va_S (Ab G) s.heap H locs)
    (kk : ∀ (r : UInt64) (Y : St) (H1 : Heap) (locs1 : List Loc), Wd G Y H1 → va_S (Ab G) s.heap H1 locs1 → post r Y → W p l e R s m args below meth c H1 locs1 cells slots Q (F0 m (pc + 3) ls (.double r :: rest))) : W p l e R s m args below meth c H locs cells slots Q (F0 m pc ls st0) :=
  va_calld hr hS (fun _ _ h => h) (fun _ h => h) (fun r Y _ H1 locs1 ht _ hp hB _ _ hS1 => kk r Y H1 locs1 (by rw [← ht]; exact hB) hS1 hp)
theorem lC_meanTemperature (C : Cx p m c cL_law 10 s args lw_all "FoundryLaw" G) (hS : va_S (Ab G) s.heap H locs) (hW : Wd G X H) {n : Nat} (hl : lv_has ls 10 [(0, .ref b), (1, .ref (ad G 715)), (2, .ref (ad G 723)), (3, .ref (ad G 735)), (4, .ref (ad G 736)), (5, .int (nI (4 * n)))])
    {f n1 f2 n2 : Nat} {post : UInt64 → St → Prop} {post2 : St → UInt64 → St → Prop} (hf : f ≤ 2000) (hn : n1 ≤ 94000) (hf2 : f2 ≤ 2000) (hn2 : n2 ≤ 94000) (hc : cells ≤ 714529) (hs : slots ≤ 6893124)
    (hM : MetQd l G yX7_meanTemperature (wsG yX7_meanTemperature cX7_meanTemperature 3 (some .double)) (rmz f n1) [.ref (ad G 715)] X post) (hM2 : ∀ (r : UInt64) (Y : St), post r Y → MetQd l G yX8_meanTemperature (wsG yX8_meanTemperature cX8_meanTemperature 3 (some .double)) (rmz f2 n2) [.ref (ad G 723)] Y (post2 Y)) (hstep : ∀ (r : UInt64) (Y : St), post r Y → ∀ (r2 : UInt64) (Z : St), post2 Y r2 Z → r = r2) (hnan : ∀ (r : UInt64) (Y : St), post r Y → FP.Core.dIsNaN r = false)
    (kk : ∀ (r : UInt64) (Y : St), post r Y → ∀ (Z : St), post2 Y r Z → ∀ (H1 : Heap) (locs1 : List Loc) (ls1 : Array Slot), Wd G Z H1 → va_S (Ab G) s.heap H1 locs1 → lv_has ls1 10 ((8, .double r) :: (6, .double r) :: [(0, .ref b), (1, .ref (ad G 715)), (2, .ref (ad G 723)), (3, .ref (ad G 735)), (4, .ref (ad G 736)), (5, .int (nI (4 * n)))]) → W p l e room_1 s m args below meth c H1 locs1 cells slots Q (F0 m 2989 ls1 [])) : W p l e room_1 s m args below meth c H locs cells slots Q (F0 m 2453 ls []) := by
  have hx := C.1.1
  have hb := C.1.2.1
  refine lv_aload_n hx hb dL_law_2453 rfl (lv_at hl 1 rfl) ?_
  refine g_calld (va_runV (As := []) (rest := []) C.1 hM (cwV 0 C.1.2.2.2.2 (gV0 qw_324 qw_325 qw_326 qw_71 qw_327) rfl rfl rfl (by decide +kernel) ⟨by show f + 1 ≤ 2048; omega, by show 8 + (3 + 11) + n1 ≤ 94400; omega⟩) (g_rFoundry C hW hS []) rfl rfl hl.1 rfl (lv_room (Nat.le_of_ble_eq_true rfl)) dL_law_2454 ⟨hc, hs⟩) hS (fun r Y H1 locs1 hW1 hS1 hp => ?_)
  refine lv_dstore hx hb dL_law_2457 hl (by decide) rfl (fun ls1 hl1 => ?_)
  replace hl1 : lv_has ls1 10 ((6, .double r) :: [(0, .ref b), (1, .ref (ad G 715)), (2, .ref (ad G 723)), (3, .ref (ad G 735)), (4, .ref (ad G 736)), (5, .int (nI (4 * n)))]) := hl1
  refine lv_aload_n hx hb dL_law_2459 rfl (lv_at hl1 3 rfl) ?_
  refine g_calld (va_runV (As := []) (rest := []) C.1 (hM2 r Y hp) (cwV 0 C.1.2.2.2.2 (gV0 qw_1843 qw_1844 qw_1845 qw_81 qw_1846) rfl rfl rfl (by decide +kernel) ⟨by show f2 + 1 ≤ 2048; omega, by show 8 + (3 + 11) + n2 ≤ 94400; omega⟩) (g_rModel C hW1 hS1 []) rfl rfl hl1.1 rfl (lv_room (Nat.le_of_ble_eq_true rfl)) dL_law_2460 ⟨hc, hs⟩) hS1 (fun r2 Z H2 locs2 hW2 hS2 hp2 => ?_)
  have he := hstep r Y hp r2 Z hp2
  subst he
  refine lv_dstore hx hb dL_law_2463 hl1 (by decide) rfl (fun ls2 hl2 => ?_)
  replace hl2 : lv_has ls2 10 ((8, .double r) :: (6, .double r) :: [(0, .ref b), (1, .ref (ad G 715)), (2, .ref (ad G 723)), (3, .ref (ad G 735)), (4, .ref (ad G 736)), (5, .int (nI (4 * n)))]) := hl2
  refine lv_dload hx hb dL_law_2465 (lv_at hl2 1 rfl) ?_
  refine lv_dload hx hb dL_law_2467 (lv_at hl2 0 rfl) ?_
  refine lv_dcmp hx hb dL_law_2469 ?_
  rw [fl_selfd (hnan r Y hp)]
  refine lv_if_eq (tgt := 2491) hx hb dL_law_2470 (by decide) (fun _ => ?_) (fun h => absurd rfl h)
  exact lv_goto hx hb dL_law_2491 (by decide) (kk r Y hp Z hp2 H2 locs2 ls2 hW2 hS2 hl2)
end LG
