/-! The law's case of slagRate. -/
theorem lW_slagRate : Cond.codeWith yL_slagRate cL_slagRate 3 (some .int) [(0, 8, 11, 136)] ∈ lw_all := lw_mem 1288 (by decide +kernel) (by decide +kernel)
theorem fl_wideN {a : UInt32} (h : FP.Core.fIsNaN a = false) : FP.Core.dIsNaN (FP.f2d a) = false := by
  rw [show FP.f2d a = FP.Core.f2d a from if_neg (by rw [h]; decide)]
  exact FP.Core.f2d_out h
section LH
variable {p : Program} {l : Launch} {e : Env} {s : State} {m : MethodId} {args : Array Value} {below : List Frame} {meth : Method} {c : Code} {H : Heap} {locs : List Loc} {cells slots : Nat} {Q : State → Prop}
variable {ls : Array Slot} {G : GT} {X : St} {b : Nat}
theorem g_callf {R : Room} {pc : Nat} {st0 rest : List Value} {a : Array Value} {post : UInt32 → St → Prop} (hr : va_Run p l e R s m args below meth c H locs cells slots 0 0 (F0 m pc ls st0) rest (Kf G post a) (Ab G)) (hS : va_S (Ab G) s.heap H locs)
    (kk : ∀ (r : UInt32) (Y : St) (H1 : Heap) (locs1 : List Loc), Wd G Y H1 → va_S (Ab G) s.heap H1 locs1 → post r Y → W p l e R s m args below meth c H1 locs1 cells slots Q (F0 m (pc + 3) ls (.float r :: rest))) : W p l e R s m args below meth c H locs cells slots Q (F0 m pc ls st0) :=
  va_callf hr hS (fun _ _ h => h) (fun _ h => h) (fun r Y _ H1 locs1 ht _ hp hB _ _ hS1 => kk r Y H1 locs1 (by rw [← ht]; exact hB) hS1 hp)
theorem g_dld {R : Room} {cc : ByteArray} {nL pc : Nat} {rest : List Value} {Ts : List Cond} {own : String} (C : Cx p m c cc nL s args Ts own G) (hW : Wd G X H) (hdg : decode cc pc = .ok (.daload, 1))
    (kk : W p l e R s m args below meth c H locs cells slots Q (F0 m (pc + 1) ls (.double X.2.2.2.2 :: rest))) : W p l e R s m args below meth c H locs cells slots Q (F0 m pc ls (.int 0 :: .ref (ad G 736) :: rest)) :=
  va_dald (D := gD G) (f := fun _ => X.2.2.2.2) C.1.1 C.1.2.1 C.2.1 hW.1 736 4 (wl_at (by decide) (by decide) (cell_s (o := 21))) rfl (vp_in_nI (n := 0) (N := 1) (by decide) (by decide)) hdg kk
theorem lC_slagRate (C : Cx p m c cL_law 10 s args lw_all "FoundryLaw" G) (hS : va_S (Ab G) s.heap H locs) (hW : Wd G X H) {n : Nat} (hl : lv_has ls 10 [(0, .ref b), (1, .ref (ad G 715)), (2, .ref (ad G 723)), (3, .ref (ad G 735)), (4, .ref (ad G 736)), (5, .int (nI (4 * n)))])
    {k f n1 f2 n2 : Nat} {post : UInt32 → St → Prop} {postx : String → St → Prop} {post2 : St → UInt32 → St → Prop} (hf : f ≤ 2000) (hn : n1 ≤ 94000) (hf2 : f2 ≤ 2000) (hn2 : n2 ≤ 94000) (hc : cells + k ≤ 714529) (hs : slots + 6 * k ≤ 6893124)
    (hM : MetXQf l G k yX7_slagRate (wsG yX7_slagRate cX7_slagRate 2 (some .float)) (rmk k f n1) [.ref (ad G 715)] X post postx) (hfin : ∀ (r : UInt32) (Y : St), post r Y → FP.Core.fIsNaN r = false) (hmem : ∀ (E : String) (Y : St), postx E Y → E ∈ ["java/lang/ArithmeticException"])
    (hM2 : ∀ (k9 : Int32) (Y : St), lpostD ["java/lang/ArithmeticException"] post postx k9 Y → MetQf l G yX8_slagRate (wsG yX8_slagRate cX8_slagRate 1 (some .float)) (rmz f2 n2) [.ref (ad G 723)] Y (post2 Y))
    (hstep : ∀ (k9 : Int32) (Y : St), lpostD ["java/lang/ArithmeticException"] post postx k9 Y → ∀ (r : UInt32) (Z : St), post2 Y r Z → Z.1 15 0 = k9 ∧ (k9 = 0 → Z.2.2.2.2 = FP.f2d r ∧ FP.Core.fIsNaN r = false))
    (kk : ∀ (k9 : Int32) (Y : St), lpostD ["java/lang/ArithmeticException"] post postx k9 Y → ∀ (r : UInt32) (Z : St), post2 Y r Z → ∀ (H1 : Heap) (locs1 : List Loc) (ls1 : Array Slot), Wd G Z H1 → va_S (Ab G) s.heap H1 locs1 → lv_has ls1 10 ((7, .float r) :: (6, .int k9) :: [(0, .ref b), (1, .ref (ad G 715)), (2, .ref (ad G 723)), (3, .ref (ad G 735)), (4, .ref (ad G 736)), (5, .int (nI (4 * n)))]) → W p l e room_1 s m args below meth c H1 locs1 (cells + k) (slots + 6 * k) Q (F0 m 2989 ls1 [])) : W p l e room_1 s m args below meth c H locs cells slots Q (F0 m 2494 ls []) := by
  have hx := C.1.1
  have hb := C.1.2.1
  refine lv_aload_n hx hb dL_law_2494 rfl (lv_at hl 1 rfl) ?_
  refine lv_aload hx hb dL_law_2495 (lv_at hl 4 rfl) ?_
  refine g_cxi (vx_runSX (hh := [(0, 8, 11, 136)]) (As := [.ref (ad G 715), .ref (ad G 736)]) (rest := []) C.1 (hL_slagRate l G X hM hfin hmem) (vx_cwSW 2 C.1.2.2.2.2 (gSW0 qw_1286 qw_1287 qw_70 lW_slagRate) rfl rfl rfl (by decide +kernel) ⟨by show f + 1 + 1 ≤ 2048; omega, by show 8 + (3 + 11) + (n1 + 21) ≤ 94400; omega⟩) (g_pre C hW hS [.ref (ad G 715), .ref (ad G 736)]) rfl rfl hl.1 rfl (lv_room (Nat.le_of_ble_eq_true rfl)) dL_law_2497 ⟨hc, hs⟩) hS (fun _ _ _ _ _ _ _ _ h => h.elim) ?_
  intro k9 Y H1 locs1 hW1 hS1 hp
  refine lv_istore hx hb dL_law_2500 hl (by decide) rfl (fun ls1 hl1 => ?_)
  replace hl1 : lv_has ls1 10 ((6, .int k9) :: [(0, .ref b), (1, .ref (ad G 715)), (2, .ref (ad G 723)), (3, .ref (ad G 735)), (4, .ref (ad G 736)), (5, .int (nI (4 * n)))]) := hl1
  refine lv_aload_n hx hb dL_law_2502 rfl (lv_at hl1 3 rfl) ?_
  refine g_callf (va_runV (As := []) (rest := []) C.1 (hM2 k9 Y hp) (cwV 0 C.1.2.2.2.2 (gV0 qw_1848 qw_1849 qw_1850 qw_81 qw_1851) rfl rfl rfl (by decide +kernel) ⟨by show f2 + 1 ≤ 2048; omega, by show 8 + (1 + 11) + n2 ≤ 94400; omega⟩) (g_rModel C hW1 hS1 []) rfl rfl hl1.1 rfl (lv_room (Nat.le_of_ble_eq_true rfl)) dL_law_2503 ⟨hc, hs⟩) hS1 (fun r Z H2 locs2 hW2 hS2 hp2 => ?_)
  refine lv_fstore hx hb dL_law_2506 hl1 (by decide) rfl (fun ls2 hl2 => ?_)
  replace hl2 : lv_has ls2 10 ((7, .float r) :: (6, .int k9) :: [(0, .ref b), (1, .ref (ad G 715)), (2, .ref (ad G 723)), (3, .ref (ad G 735)), (4, .ref (ad G 736)), (5, .int (nI (4 * n)))]) := hl2
  obtain ⟨hs1, hs2⟩ := hstep k9 Y hp r Z hp2
  refine lv_aload_n hx hb dL_law_2508 rfl (lv_at hl2 4 rfl) ?_
  refine g_calli (va_runV (As := []) (rest := []) C.1 (cX8_thrown_ok l G Z) (cwV 0 C.1.2.2.2.2 (gV0 qw_1543 qw_1544 qw_1545 qw_81 qw_1546) rfl rfl rfl (by decide +kernel) ⟨Nat.le_of_ble_eq_true rfl, Nat.le_of_ble_eq_true rfl⟩) (g_rModel C hW2 hS2 []) rfl rfl hl2.1 rfl (lv_room (Nat.le_of_ble_eq_true rfl)) dL_law_2509 ⟨hc, hs⟩) hS2 (fun r_2 Z2 H3 locs3 hW3 hS3 h_1 => ?_)
  obtain ⟨hr_1, hy_1⟩ := h_1
  replace hy_1 := hy_1.symm
  subst hy_1
  have hr_2 : r_2 = k9 := hr_1.trans hs1
  subst hr_2
  refine lv_iload hx hb dL_law_2512 (lv_at hl2 1 rfl) ?_
  refine lv_icmp_eq (tgt := 2519) hx hb dL_law_2514 (by decide) (fun _ => ?_) (fun h => absurd rfl h)
  refine lv_iload hx hb dL_law_2519 (lv_at hl2 1 rfl) ?_
  refine lv_if_ne (tgt := 2557) hx hb dL_law_2521 (by decide) (fun _ => ?_) (fun h0 => ?_)
  · exact lv_goto hx hb dL_law_2557 (by decide) (kk _ Y hp r _ hp2 H3 locs3 ls2 hW3 hS3 hl2)
  · obtain ⟨hv, hnn⟩ := hs2 h0
    refine lv_aload hx hb dL_law_2524 (lv_at hl2 6 rfl) ?_
    refine lv_iconst (v := 0) hx hb dL_law_2526 (by decide) ?_
    refine g_dld C hW3 dL_law_2527 ?_
    refine lv_fload hx hb dL_law_2528 (lv_at hl2 0 rfl) ?_
    refine lv_f2d hx hb dL_law_2530 (fl_wide hnn) ?_
    refine lv_dcmp hx hb dL_law_2531 ?_
    rw [hv, fl_selfd (fl_wideN hnn)]
    refine lv_if_eq (tgt := 2557) hx hb dL_law_2532 (by decide) (fun _ => ?_) (fun h => absurd rfl h)
    exact lv_goto hx hb dL_law_2557 (by decide) (kk _ Y hp r _ hp2 H3 locs3 ls2 hW3 hS3 hl2)
end LH
