/-! The law's loop over its script. -/
theorem lv_perm {ls : Array Slot} {nL : Nat} {l l' : List (Nat × Value)} (h : lv_has ls nL l) (hs : ∀ q ∈ l', q ∈ l) : lv_has ls nL l' := ⟨h.1, h.2.1, fun q hq => h.2.2 q (hs q hq)⟩
section LOOP
variable {p : Program} {l : Launch} {e : Env} {s : State} {m : MethodId} {args : Array Value} {below : List Frame} {meth : Method} {c : Code} {Q : State → Prop}
variable {G : GT} {b L : Nat} {xs : Nat → Int32}
set_option maxHeartbeats 4000000 in
theorem lw_switch (hst : l.stackTraces = false) (C : Cx p m c cL_law 10 s args lw_all "FoundryLaw" G) (hX : va_X b L xs s s.heap) (hbl : b < s.heap.size) (hbA : ¬ Ab G b) {X : St} {H : Heap} {locs : List Loc} {ls : Array Slot} {cells slots n : Nat} (hS : va_S (Ab G) s.heap H locs) (hW : Wd G X H) (hj : 4 * n + 3 < L) (hL : L < 2 ^ 31) (hl : lv_has ls 10 [(0, .ref b), (1, .ref (ad G 715)), (2, .ref (ad G 723)), (3, .ref (ad G 735)), (4, .ref (ad G 736)), (5, .int (nI (4 * n)))]) (hI : LInv X) (hc : cells + 7 ≤ 714529) (hs : slots + 42 ≤ 6893124) (x : Int32)
    (K : ∀ (Z : St) (H1 : Heap) (locs1 : List Loc) (ls1 : Array Slot), LInv Z → Wd G Z H1 → va_S (Ab G) s.heap H1 locs1 → lv_has ls1 10 [(0, .ref b), (1, .ref (ad G 715)), (2, .ref (ad G 723)), (3, .ref (ad G 735)), (4, .ref (ad G 736)), (5, .int (nI (4 * n)))] → W p l e room_1 s m args below meth c H1 locs1 (cells + 7) (slots + 42) Q (F0 m 2989 ls1 [])) : W p l e room_1 s m args below meth c H locs cells slots Q (F0 m 44 ls [.int (x &&& 63)]) := by
  have hx := C.1.1
  have hb := C.1.2.1
  obtain ⟨k, hk, ek⟩ := pk_andE x 6 (m := 63) (by decide)
  rw [ek]
  by_cases h51 : 51 ≤ k
  · refine lv_tableOut (tgt := 2989) hx hb dL_law_44 (.inr (by rw [nI_toInt (by omega)]; omega)) (by decide) ?_
    exact W.widen (by omega) (by omega) (K X H locs ls hI hW hS hl)
  rcases (by omega : k = 0 ∨ k = 1 ∨ k = 2 ∨ k = 3 ∨ k = 4 ∨ k = 5 ∨ k = 6 ∨ k = 7 ∨ k = 8 ∨ k = 9 ∨ k = 10 ∨ k = 11 ∨ k = 12 ∨ k = 13 ∨ k = 14 ∨ k = 15 ∨ k = 16 ∨ k = 17 ∨ k = 18 ∨ k = 19 ∨ k = 20 ∨ k = 21 ∨ k = 22 ∨ k = 23 ∨ k = 24 ∨ k = 25 ∨ k = 26 ∨ k = 27 ∨ k = 28 ∨ k = 29 ∨ k = 30 ∨ k = 31 ∨ k = 32 ∨ k = 33 ∨ k = 34 ∨ k = 35 ∨ k = 36 ∨ k = 37 ∨ k = 38 ∨ k = 39 ∨ k = 40 ∨ k = 41 ∨ k = 42 ∨ k = 43 ∨ k = 44 ∨ k = 45 ∨ k = 46 ∨ k = 47 ∨ k = 48 ∨ k = 49 ∨ k = 50) with rfl | rfl | rfl | rfl | rfl | rfl | rfl | rfl | rfl | rfl | rfl | rfl | rfl | rfl | rfl | rfl | rfl | rfl | rfl | rfl | rfl | rfl | rfl | rfl | rfl | rfl | rfl | rfl | rfl | rfl | rfl | rfl | rfl | rfl | rfl | rfl | rfl | rfl | rfl | rfl | rfl | rfl | rfl | rfl | rfl | rfl | rfl | rfl | rfl | rfl | rfl
  · exact lv_tableIn (tgt := 264) hx hb dL_law_44 (by decide) (by decide) rfl (by decide) (lT_charge hst C hX hbl hbA hS hW hj hL hl hI hc hs K)
  · exact lv_tableIn (tgt := 346) hx hb dL_law_44 (by decide) (by decide) rfl (by decide) (lT_setFire hst C hX hbl hbA hS hW hj hL hl hI hc hs K)
  · exact lv_tableIn (tgt := 414) hx hb dL_law_44 (by decide) (by decide) rfl (by decide) (lT_skim hst C hX hbl hbA hS hW hj hL hl hI hc hs K)
  · exact lv_tableIn (tgt := 470) hx hb dL_law_44 (by decide) (by decide) rfl (by decide) (lT_tap hst C hX hbl hbA hS hW hj hL hl hI hc hs K)
  · exact lv_tableIn (tgt := 550) hx hb dL_law_44 (by decide) (by decide) rfl (by decide) (lT_pourBack hst C hX hbl hbA hS hW hj hL hl hI hc hs K)
  · exact lv_tableIn (tgt := 618) hx hb dL_law_44 (by decide) (by decide) rfl (by decide) (lT_addMould hst C hX hbl hbA hS hW hj hL hl hI hc hs K)
  · exact lv_tableIn (tgt := 674) hx hb dL_law_44 (by decide) (by decide) rfl (by decide) (lT_pour hst C hX hbl hbA hS hW hj hL hl hI hc hs K)
  · exact lv_tableIn (tgt := 742) hx hb dL_law_44 (by decide) (by decide) rfl (by decide) (lT_breakOut hst C hX hbl hbA hS hW hj hL hl hI hc hs K)
  · exact lv_tableIn (tgt := 798) hx hb dL_law_44 (by decide) (by decide) rfl (by decide) (lT_meltDown hst C hX hbl hbA hS hW hj hL hl hI hc hs K)
  · exact lv_tableIn (tgt := 866) hx hb dL_law_44 (by decide) (by decide) rfl (by decide) (lT_advance hst C hX hbl hbA hS hW hj hL hl hI hc hs K)
  · exact lv_tableIn (tgt := 922) hx hb dL_law_44 (by decide) (by decide) rfl (by decide) (lT_furnaceMass hst C hX hbl hbA hS hW hj hL hl hI hc hs K)
  · exact lv_tableIn (tgt := 992) hx hb dL_law_44 (by decide) (by decide) rfl (by decide) (lT_furnaceTotal hst C hX hbl hbA hS hW hj hL hl hI hc hs K)
  · exact lv_tableIn (tgt := 1048) hx hb dL_law_44 (by decide) (by decide) rfl (by decide) (lT_furnaceTemperature hst C hX hbl hbA hS hW hj hL hl hI hc hs K)
  · exact lv_tableIn (tgt := 1104) hx hb dL_law_44 (by decide) (by decide) rfl (by decide) (lT_fire hst C hX hbl hbA hS hW hj hL hl hI hc hs K)
  · exact lv_tableIn (tgt := 1160) hx hb dL_law_44 (by decide) (by decide) rfl (by decide) (lT_meltingPoint hst C hX hbl hbA hS hW hj hL hl hI hc hs K)
  · exact lv_tableIn (tgt := 1216) hx hb dL_law_44 (by decide) (by decide) rfl (by decide) (lT_meltingPointByDifferences hst C hX hbl hbA hS hW hj hL hl hI hc hs K)
  · exact lv_tableIn (tgt := 1272) hx hb dL_law_44 (by decide) (by decide) rfl (by decide) (lT_isMolten hst C hX hbl hbA hS hW hj hL hl hI hc hs K)
  · exact lv_tableIn (tgt := 1335) hx hb dL_law_44 (by decide) (by decide) rfl (by decide) (lT_minutesUntilMolten hst C hX hbl hbA hS hW hj hL hl hI hc hs K)
  · exact lv_tableIn (tgt := 1391) hx hb dL_law_44 (by decide) (by decide) rfl (by decide) (lT_minutesUntilMoltenByDivision hst C hX hbl hbA hS hW hj hL hl hI hc hs K)
  · exact lv_tableIn (tgt := 1447) hx hb dL_law_44 (by decide) (by decide) rfl (by decide) (lT_furnaceByTemperature hst C hX hbl hbA hS hW hj hL hl hI hc hs K)
  · exact lv_tableIn (tgt := 1503) hx hb dL_law_44 (by decide) (by decide) rfl (by decide) (lT_ladleMass hst C hX hbl hbA hS hW hj hL hl hI hc hs K)
  · exact lv_tableIn (tgt := 1573) hx hb dL_law_44 (by decide) (by decide) rfl (by decide) (lT_ladleTotal hst C hX hbl hbA hS hW hj hL hl hI hc hs K)
  · exact lv_tableIn (tgt := 1629) hx hb dL_law_44 (by decide) (by decide) rfl (by decide) (lT_ladleTemperature hst C hX hbl hbA hS hW hj hL hl hI hc hs K)
  · exact lv_tableIn (tgt := 1685) hx hb dL_law_44 (by decide) (by decide) rfl (by decide) (lT_pouringMinutes hst C hX hbl hbA hS hW hj hL hl hI hc hs K)
  · exact lv_tableIn (tgt := 1741) hx hb dL_law_44 (by decide) (by decide) rfl (by decide) (lT_mouldCount hst C hX hbl hbA hS hW hj hL hl hI hc hs K)
  · exact lv_tableIn (tgt := 1754) hx hb dL_law_44 (by decide) (by decide) rfl (by decide) (lT_volume hst C hX hbl hbA hS hW hj hL hl hI hc hs K)
  · exact lv_tableIn (tgt := 1810) hx hb dL_law_44 (by decide) (by decide) rfl (by decide) (lT_isFilled hst C hX hbl hbA hS hW hj hL hl hI hc hs K)
  · exact lv_tableIn (tgt := 1873) hx hb dL_law_44 (by decide) (by decide) rfl (by decide) (lT_mouldMass hst C hX hbl hbA hS hW hj hL hl hI hc hs K)
  · exact lv_tableIn (tgt := 1943) hx hb dL_law_44 (by decide) (by decide) rfl (by decide) (lT_ingotCount hst C hX hbl hbA hS hW hj hL hl hI hc hs K)
  · exact lv_tableIn (tgt := 1956) hx hb dL_law_44 (by decide) (by decide) rfl (by decide) (lT_ingotMass hst C hX hbl hbA hS hW hj hL hl hI hc hs K)
  · exact lv_tableIn (tgt := 2026) hx hb dL_law_44 (by decide) (by decide) rfl (by decide) (lT_share hst C hX hbl hbA hS hW hj hL hl hI hc hs K)
  · exact lv_tableIn (tgt := 2096) hx hb dL_law_44 (by decide) (by decide) rfl (by decide) (lT_grade hst C hX hbl hbA hS hW hj hL hl hI hc hs K)
  · exact lv_tableIn (tgt := 2152) hx hb dL_law_44 (by decide) (by decide) rfl (by decide) (lT_ingotByMass hst C hX hbl hbA hS hW hj hL hl hI hc hs K)
  · exact lv_tableIn (tgt := 2208) hx hb dL_law_44 (by decide) (by decide) rfl (by decide) (lT_time hst C hX hbl hbA hS hW hj hL hl hI hc hs K)
  · exact lv_tableIn (tgt := 2221) hx hb dL_law_44 (by decide) (by decide) rfl (by decide) (lT_charged hst C hX hbl hbA hS hW hj hL hl hI hc hs K)
  · exact lv_tableIn (tgt := 2279) hx hb dL_law_44 (by decide) (by decide) rfl (by decide) (lT_slag hst C hX hbl hbA hS hW hj hL hl hI hc hs K)
  · exact lv_tableIn (tgt := 2337) hx hb dL_law_44 (by decide) (by decide) rfl (by decide) (lT_stock hst C hX hbl hbA hS hW hj hL hl hI hc hs K)
  · exact lv_tableIn (tgt := 2395) hx hb dL_law_44 (by decide) (by decide) rfl (by decide) (lT_stockByAccounts hst C hX hbl hbA hS hW hj hL hl hI hc hs K)
  · exact lv_tableIn (tgt := 2453) hx hb dL_law_44 (by decide) (by decide) rfl (by decide) (lT_meanTemperature hst C hX hbl hbA hS hW hj hL hl hI hc hs K)
  · exact lv_tableIn (tgt := 2494) hx hb dL_law_44 (by decide) (by decide) rfl (by decide) (lT_slagRate hst C hX hbl hbA hS hW hj hL hl hI hc hs K)
  · exact lv_tableIn (tgt := 2560) hx hb dL_law_44 (by decide) (by decide) rfl (by decide) (lT_isConsistent hst C hX hbl hbA hS hW hj hL hl hI hc hs K)
  · exact lv_tableIn (tgt := 2573) hx hb dL_law_44 (by decide) (by decide) rfl (by decide) (lT_renderFurnace hst C hX hbl hbA hS hW hj hL hl hI hc hs K)
  · exact lv_tableIn (tgt := 2629) hx hb dL_law_44 (by decide) (by decide) rfl (by decide) (lT_renderGrades hst C hX hbl hbA hS hW hj hL hl hI hc hs K)
  · exact lv_tableIn (tgt := 2642) hx hb dL_law_44 (by decide) (by decide) rfl (by decide) (lT_outputAt hst C hX hbl hbA hS hW hj hL hl hI hc hs K)
  · exact lv_tableIn (tgt := 2698) hx hb dL_law_44 (by decide) (by decide) rfl (by decide) (lT_type hst C hX hbl hbA hS hW hj hL hl hI hc hs K)
  · exact lv_tableIn (tgt := 2756) hx hb dL_law_44 (by decide) (by decide) rfl (by decide) (lT_runScript hst C hX hbl hbA hS hW hj hL hl hI hc hs K)
  · exact lv_tableIn (tgt := 2800) hx hb dL_law_44 (by decide) (by decide) rfl (by decide) (lT_errorPosition hst C hX hbl hbA hS hW hj hL hl hI hc hs K)
  · exact lv_tableIn (tgt := 2844) hx hb dL_law_44 (by decide) (by decide) rfl (by decide) (lT_failedCommand hst C hX hbl hbA hS hW hj hL hl hI hc hs K)
  · exact lv_tableIn (tgt := 2888) hx hb dL_law_44 (by decide) (by decide) rfl (by decide) (lT_undo hst C hX hbl hbA hS hW hj hL hl hI hc hs K)
  · exact lv_tableIn (tgt := 2932) hx hb dL_law_44 (by decide) (by decide) rfl (by decide) (lT_save hst C hX hbl hbA hS hW hj hL hl hI hc hs K)
  · exact lv_tableIn (tgt := 2945) hx hb dL_law_44 (by decide) (by decide) rfl (by decide) (lT_restore hst C hX hbl hbA hS hW hj hL hl hI hc hs K)
theorem lw_loop (hst : l.stackTraces = false) (C : Cx p m c cL_law 10 s args lw_all "FoundryLaw" G) (hX : va_X b L xs s s.heap) (hbl : b < s.heap.size) (hbA : ¬ Ab G b) (hL : L ≤ 2048) (kend : ∀ (H1 : Heap) (locs1 : List Loc) (ls1 : Array Slot), va_S (Ab G) s.heap H1 locs1 → W p l e room_1 s m args below meth c H1 locs1 714529 6893124 Q (F0 m 2995 ls1 [])) :
    ∀ (q n : Nat) (X : St) (H : Heap) (locs : List Loc) (ls : Array Slot) (cells slots : Nat), L ≤ 4 * (n + q) + 3 → n ≤ 1000 → cells + 7 * q ≤ 714529 → slots + 42 * q ≤ 6893124 → va_S (Ab G) s.heap H locs → Wd G X H → LInv X → lv_has ls 10 [(0, .ref b), (1, .ref (ad G 715)), (2, .ref (ad G 723)), (3, .ref (ad G 735)), (4, .ref (ad G 736)), (5, .int (nI (4 * n)))] → W p l e room_1 s m args below meth c H locs cells slots Q (F0 m 28 ls []) := by
  have hx := C.1.1
  have hb := C.1.2.1
  intro q
  induction q with
  | zero =>
    intro n X H locs ls cells slots h1 hn hc hs hS hW hI hl
    refine lv_iload hx hb dL_law_28 (lv_at hl 5 rfl) ?_
    refine lv_aload_n hx hb dL_law_30 rfl (lv_at hl 0 rfl) ?_
    refine va_slen hx hb hX hbl hbA hS dL_law_31 ?_
    refine lv_iconst (v := 4) hx hb dL_law_32 (by decide) ?_
    refine lv_isub hx hb dL_law_33 ?_
    refine lv_icmp_gt (tgt := 2995) hx hb dL_law_34 (by decide) (fun _ => W.widen (by omega) (by omega) (kend H locs ls hS)) (fun h => absurd ?_ h)
    show nI L - nI 4 < nI (4 * n)
    rw [Int32.lt_iff_toInt_lt, pk_sub_toInt (by omega) (by decide), nI_toInt (by omega)]
    omega
  | succ q ih =>
    intro n X H locs ls cells slots h1 hn hc hs hS hW hI hl
    refine lv_iload hx hb dL_law_28 (lv_at hl 5 rfl) ?_
    refine lv_aload_n hx hb dL_law_30 rfl (lv_at hl 0 rfl) ?_
    refine va_slen hx hb hX hbl hbA hS dL_law_31 ?_
    refine lv_iconst (v := 4) hx hb dL_law_32 (by decide) ?_
    refine lv_isub hx hb dL_law_33 ?_
    refine lv_icmp_gt (tgt := 2995) hx hb dL_law_34 (by decide) (fun _ => W.widen (by omega) (by omega) (kend H locs ls hS)) (fun h => ?_)
    have hj : 4 * n + 3 < L := by
      have h : ¬ nI L - nI 4 < nI (4 * n) := h
      rw [Int32.lt_iff_toInt_lt, pk_sub_toInt (by omega) (by decide), nI_toInt (by omega)] at h
      omega
    refine lv_aload_n hx hb dL_law_37 rfl (lv_at hl 0 rfl) ?_
    refine lv_iload hx hb dL_law_38 (lv_at hl 5 rfl) ?_
    refine va_sld hx hb hX hbl hbA hS (vp_in_nI (show 4 * n < L by omega) (by omega)) dL_law_40 ?_
    refine lv_bipush (v := 63) hx hb dL_law_41 (by decide) ?_
    refine lv_iand hx hb dL_law_43 ?_
    refine lw_switch hst C hX hbl hbA hS hW hj (by omega) hl hI (by omega) (by omega) _ (fun Z H1 locs1 ls1 a1 a2 a3 a4 => ?_)
    refine lv_iinc (k := 5) (v := nI (4 * (n + 1))) (lv' := [(5, .int (nI (4 * (n + 1)))), (0, .ref b), (1, .ref (ad G 715)), (2, .ref (ad G 723)), (3, .ref (ad G 735)), (4, .ref (ad G 736))]) hx hb dL_law_2989 a4 rfl (by rw [show (Int32.ofInt 4 : Int32) = nI 4 from by decide, nI_add]; congr 1) (by decide) rfl (fun ls2 hl2 => ?_)
    refine lv_goto (tgt := 28) hx hb dL_law_2992 (by decide) ?_
    refine ih (n + 1) Z H1 locs1 ls2 (cells + 7) (slots + 42) (by omega) (by omega) (by omega) (by omega) a3 a2 a1 (lv_perm hl2 ?_)
    intro q hq
    simp only [List.mem_cons, List.not_mem_nil, or_false] at hq ⊢
    rcases hq with rfl | rfl | rfl | rfl | rfl | rfl <;> simp
end LOOP
