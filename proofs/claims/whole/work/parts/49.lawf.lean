/-! The law's cases of a boolean. -/
section LF
variable {p : Program} {l : Launch} {e : Env} {s : State} {m : MethodId} {args : Array Value} {below : List Frame} {meth : Method} {c : Code} {H : Heap} {locs : List Loc} {cells slots : Nat} {Q : State → Prop}
variable {ls : Array Slot} {G : GT} {X : St}
theorem lw_cmpB (C : Cx p m c cL_law 10 s args lw_all "FoundryLaw" G) (hW : Wd G X H) (hS : va_S (Ab G) s.heap H locs) (hsz : ls.size = 10) {k b : Int32} (i2 : ls[2]? = some (.val (.ref (ad G 723)))) (i3 : ls[3]? = some (.val (.ref (ad G 735)))) (i6 : ls[6]? = some (.val (.int k))) (i7 : ls[7]? = some (.val (.int b)))
    (hthr : X.1 15 0 = k) (hans : k = 0 → X.1 27 0 = if b = 0 then 0 else 1) (hc : cells ≤ 714529) (hs : slots ≤ 6893124) {T : Nat} {off : Int}
    (d0 : decode cL_law T = .ok (.aload_n 2, 1)) (d1 : decode cL_law (T + 1) = .ok (.invokevirtual 173, 3)) (d4 : decode cL_law (T + 4) = .ok (.iload 6, 2)) (d6 : decode cL_law (T + 6) = .ok (.if_icmp .eq 5, 3)) (d11 : decode cL_law (T + 11) = .ok (.iload 6, 2)) (d13 : decode cL_law (T + 13) = .ok (.ifCond .ne 22, 3))
    (d16 : decode cL_law (T + 16) = .ok (.aload_n 3, 1)) (d17 : decode cL_law (T + 17) = .ok (.iconst 0, 1)) (d18 : decode cL_law (T + 18) = .ok (.laload, 1)) (d19 : decode cL_law (T + 19) = .ok (.iload 7, 2)) (d21 : decode cL_law (T + 21) = .ok (.ifCond .eq 7, 3)) (d24 : decode cL_law (T + 24) = .ok (.lconst 1, 1)) (d25 : decode cL_law (T + 25) = .ok (.goto 4, 3)) (d28 : decode cL_law (T + 28) = .ok (.lconst 0, 1)) (d29 : decode cL_law (T + 29) = .ok (.lcmp, 1)) (d30 : decode cL_law (T + 30) = .ok (.ifCond .eq 5, 3)) (d35 : decode cL_law (T + 35) = .ok (.goto off, 3)) (ht : ((T + 35 : Nat) : Int) + off = ((2989 : Nat) : Int))
    (kk : ∀ (H1 : Heap) (locs1 : List Loc), Wd G X H1 → va_S (Ab G) s.heap H1 locs1 → W p l e room_1 s m args below meth c H1 locs1 cells slots Q (F0 m 2989 ls [])) : W p l e room_1 s m args below meth c H locs cells slots Q (F0 m T ls []) := by
  have hx := C.1.1
  have hb := C.1.2.1
  refine lv_aload_n hx hb d0 rfl i2 ?_
  refine g_calli (va_runV (As := []) (rest := []) C.1 (cX8_thrown_ok l G X) (cwV 0 C.1.2.2.2.2 (gV0 qw_1543 qw_1544 qw_1545 qw_81 qw_1546) rfl rfl rfl (by decide +kernel) ⟨Nat.le_of_ble_eq_true rfl, Nat.le_of_ble_eq_true rfl⟩) (g_rModel C hW hS []) rfl rfl hsz rfl (lv_room (Nat.le_of_ble_eq_true rfl)) d1 ⟨hc, hs⟩) hS (fun r_2 Y_3 H_4 locs_5 hW_6 hS_7 h_1 => ?_)
  obtain ⟨hr_1, hy_1⟩ := h_1
  replace hy_1 := hy_1.symm
  subst hy_1
  have hr_2 : r_2 = k := hr_1.trans hthr
  subst hr_2
  refine lv_iload hx hb d4 i6 ?_
  refine lv_icmp_eq (tgt := T + 11) hx hb d6 (by omega) (fun _ => ?_) (fun h => absurd rfl h)
  refine lv_iload hx hb d11 i6 ?_
  refine lv_if_ne (tgt := T + 35) hx hb d13 (by omega) (fun _ => ?_) (fun h0 => ?_)
  · exact lv_goto hx hb d35 ht (kk _ _ hW_6 hS_7)
  · refine lv_aload_n hx hb d16 rfl i3 ?_
    refine lv_iconst (v := 0) hx hb d17 (by decide) ?_
    refine g_lld C hW_6 d18 ?_
    refine lv_iload hx hb d19 i7 ?_
    have hv := hans h0
    refine lv_if_eq (tgt := T + 28) hx hb d21 (by omega) (fun hb0 => ?_) (fun hb0 => ?_)
    · refine lv_lconst (v := (0 : Int32).toInt64) hx hb d28 (by decide) ?_
      refine W.lcmp hx hb d29 ?_
      rw [hv, if_pos hb0]
      refine lv_if_eq (tgt := T + 35) hx hb d30 (by omega) (fun _ => ?_) (fun h => (h (by simp [lg_cmp])).elim)
      exact lv_goto hx hb d35 ht (kk _ _ hW_6 hS_7)
    · refine lv_lconst (v := (1 : Int32).toInt64) hx hb d24 (by decide) ?_
      refine lv_goto hx hb d25 (tgt := T + 29) (by omega) ?_
      refine W.lcmp hx hb d29 ?_
      rw [hv, if_neg hb0]
      refine lv_if_eq (tgt := T + 35) hx hb d30 (by omega) (fun _ => ?_) (fun h => (h (by simp [lg_cmp])).elim)
      exact lv_goto hx hb d35 ht (kk _ _ hW_6 hS_7)
variable {b L : Nat} {xs : Nat → Int32}
theorem lW_isMolten : Cond.codeWith yL_isMolten cL_isMolten 4 (some .int) [(0, 16, 19, 13)] ∈ lw_all := lw_mem 1130 (by decide +kernel) (by decide +kernel)
set_option maxHeartbeats 2000000 in
theorem lC_isMolten (C : Cx p m c cL_law 10 s args lw_all "FoundryLaw" G) (hX : va_X b L xs s s.heap) (hbl : b < s.heap.size) (hbA : ¬ Ab G b) (hS : va_S (Ab G) s.heap H locs) (hW : Wd G X H) {n : Nat} (hj : 4 * n + 3 < L) (hL : L < 2 ^ 31) (hl : lv_has ls 10 [(0, .ref b), (1, .ref (ad G 715)), (2, .ref (ad G 723)), (3, .ref (ad G 735)), (4, .ref (ad G 736)), (5, .int (nI (4 * n)))])
    {k f n1 f2 n2 : Nat} {post : Int32 → St → Prop} {postx : String → St → Prop} {post2 : St → Int32 → St → Prop} (hf : f ≤ 2000) (hn : n1 ≤ 94000) (hf2 : f2 ≤ 2000) (hn2 : n2 ≤ 94000) (hc : cells + k ≤ 714529) (hs : slots + 6 * k ≤ 6893124)
    (hM : MetXI l G k yX7_isMolten (wsG yX7_isMolten cX7_isMolten 2 (some .boolean)) (rmk k f n1) [.ref (ad G 715), .int (xs (4 * n + 1))] X post postx) (hmem : ∀ (E : String) (Y : St), postx E Y → E ∈ ["java/lang/IndexOutOfBoundsException"])
    (hM2 : ∀ (k9 : Int32) (Y : St), lpost ["java/lang/IndexOutOfBoundsException"] (fun r => if r = 0 then 0 else 1) post postx k9 Y → MetI l G yX8_isMolten (wsG yX8_isMolten cX8_isMolten 2 (some .boolean)) (rmz f2 n2) [.ref (ad G 723), .int (xs (4 * n + 1))] Y (post2 Y))
    (hstep : ∀ (k9 : Int32) (Y : St), lpost ["java/lang/IndexOutOfBoundsException"] (fun r => if r = 0 then 0 else 1) post postx k9 Y → ∀ (r : Int32) (Z : St), post2 Y r Z → Z.1 15 0 = k9 ∧ (k9 = 0 → Z.1 27 0 = if r = 0 then 0 else 1))
    (kk : ∀ (k9 : Int32) (Y : St), lpost ["java/lang/IndexOutOfBoundsException"] (fun r => if r = 0 then 0 else 1) post postx k9 Y → ∀ (r : Int32) (Z : St), post2 Y r Z → ∀ (H1 : Heap) (locs1 : List Loc) (ls1 : Array Slot), Wd G Z H1 → va_S (Ab G) s.heap H1 locs1 → lv_has ls1 10 [(7, .int r), (6, .int k9), (0, .ref b), (1, .ref (ad G 715)), (2, .ref (ad G 723)), (3, .ref (ad G 735)), (4, .ref (ad G 736)), (5, .int (nI (4 * n)))] → W p l e room_1 s m args below meth c H1 locs1 (cells + k) (slots + 6 * k) Q (F0 m 2989 ls1 [])) : W p l e room_1 s m args below meth c H locs cells slots Q (F0 m 1272 ls []) := by
  have hx := C.1.1
  have hb := C.1.2.1
  refine lv_aload_n hx hb dL_law_1272 rfl (lv_at hl 1 rfl) ?_
  refine lw_arg C hX hbl hbA hS 1 (by omega) hL (lv_at hl 0 rfl) (lv_at hl 5 rfl) (by decide) dL_law_1273 dL_law_1274 dL_law_1276 dL_law_1277 dL_law_1278 ?_
  refine lv_aload_n hx hb dL_law_1279 rfl (lv_at hl 3 rfl) ?_
  refine g_cxi (vx_runSX (hh := [(0, 16, 19, 13)]) (As := [.ref (ad G 715), .int (xs (4 * n + 1)), .ref (ad G 735)]) (rest := []) C.1 (hL_isMolten l G X (xs (4 * n + 1)) hM hmem) (vx_cwSW 3 C.1.2.2.2.2 (gSW0 qw_1128 qw_1129 qw_70 lW_isMolten) rfl rfl rfl (by decide +kernel) ⟨by show f + 1 + 1 ≤ 2048; omega, by show 8 + (4 + 11) + (n1 + 21) ≤ 94400; omega⟩) (g_pre C hW hS [.ref (ad G 715), .int (xs (4 * n + 1)), .ref (ad G 735)]) rfl rfl hl.1 rfl (lv_room (Nat.le_of_ble_eq_true rfl)) dL_law_1280 ⟨hc, hs⟩) hS (fun _ _ _ _ _ _ _ _ h => h.elim) ?_
  intro k9 Y H1 locs1 hW1 hS1 hp
  refine lv_istore hx hb dL_law_1283 hl (by decide) rfl (fun ls1 hl1 => ?_)
  replace hl1 : lv_has ls1 10 [(6, .int k9), (0, .ref b), (1, .ref (ad G 715)), (2, .ref (ad G 723)), (3, .ref (ad G 735)), (4, .ref (ad G 736)), (5, .int (nI (4 * n)))] := hl1
  refine lv_aload_n hx hb dL_law_1285 rfl (lv_at hl1 3 rfl) ?_
  refine lw_arg C hX hbl hbA hS1 1 (by omega) hL (lv_at hl1 1 rfl) (lv_at hl1 6 rfl) (by decide) dL_law_1286 dL_law_1287 dL_law_1289 dL_law_1290 dL_law_1291 ?_
  refine g_calli (va_runV (As := [.int (xs (4 * n + 1))]) (rest := []) C.1 (hM2 k9 Y hp) (cwV 1 C.1.2.2.2.2 (gV0 qw_1741 qw_1742 qw_1743 qw_81 qw_1744) rfl rfl rfl (by decide +kernel) ⟨by show f2 + 1 ≤ 2048; omega, by show 8 + (2 + 11) + n2 ≤ 94400; omega⟩) (g_rModel C hW1 hS1 [.int (xs (4 * n + 1))]) rfl rfl hl1.1 rfl (lv_room (Nat.le_of_ble_eq_true rfl)) dL_law_1292 ⟨hc, hs⟩) hS1 (fun r Z H2 locs2 hW2 hS2 hp2 => ?_)
  refine lv_istore hx hb dL_law_1295 hl1 (by decide) rfl (fun ls2 hl2 => ?_)
  replace hl2 : lv_has ls2 10 [(7, .int r), (6, .int k9), (0, .ref b), (1, .ref (ad G 715)), (2, .ref (ad G 723)), (3, .ref (ad G 735)), (4, .ref (ad G 736)), (5, .int (nI (4 * n)))] := hl2
  obtain ⟨hs1, hs2⟩ := hstep k9 Y hp r Z hp2
  exact lw_cmpB C hW2 hS2 hl2.1 (lv_at hl2 4 rfl) (lv_at hl2 5 rfl) (lv_at hl2 1 rfl) (lv_at hl2 0 rfl) hs1 hs2 hc hs dL_law_1297 dL_law_1298 dL_law_1301 dL_law_1303 dL_law_1308 dL_law_1310 dL_law_1313 dL_law_1314 dL_law_1315 dL_law_1316 dL_law_1318 dL_law_1321 dL_law_1322 dL_law_1325 dL_law_1326 dL_law_1327 dL_law_1332 (by decide) (fun H3 locs3 h1 h2 => kk k9 Y hp r Z hp2 H3 locs3 ls2 h1 h2 hl2)
theorem lW_isFilled : Cond.codeWith yL_isFilled cL_isFilled 4 (some .int) [(0, 16, 19, 13)] ∈ lw_all := lw_mem 1209 (by decide +kernel) (by decide +kernel)
set_option maxHeartbeats 2000000 in
theorem lC_isFilled (C : Cx p m c cL_law 10 s args lw_all "FoundryLaw" G) (hX : va_X b L xs s s.heap) (hbl : b < s.heap.size) (hbA : ¬ Ab G b) (hS : va_S (Ab G) s.heap H locs) (hW : Wd G X H) {n : Nat} (hj : 4 * n + 3 < L) (hL : L < 2 ^ 31) (hl : lv_has ls 10 [(0, .ref b), (1, .ref (ad G 715)), (2, .ref (ad G 723)), (3, .ref (ad G 735)), (4, .ref (ad G 736)), (5, .int (nI (4 * n)))])
    {k f n1 f2 n2 : Nat} {post : Int32 → St → Prop} {postx : String → St → Prop} {post2 : St → Int32 → St → Prop} (hf : f ≤ 2000) (hn : n1 ≤ 94000) (hf2 : f2 ≤ 2000) (hn2 : n2 ≤ 94000) (hc : cells + k ≤ 714529) (hs : slots + 6 * k ≤ 6893124)
    (hM : MetXI l G k yX7_isFilled (wsG yX7_isFilled cX7_isFilled 2 (some .boolean)) (rmk k f n1) [.ref (ad G 715), .int (xs (4 * n + 1))] X post postx) (hmem : ∀ (E : String) (Y : St), postx E Y → E ∈ ["java/lang/IndexOutOfBoundsException"])
    (hM2 : ∀ (k9 : Int32) (Y : St), lpost ["java/lang/IndexOutOfBoundsException"] (fun r => if r = 0 then 0 else 1) post postx k9 Y → MetI l G yX8_isFilled (wsG yX8_isFilled cX8_isFilled 2 (some .boolean)) (rmz f2 n2) [.ref (ad G 723), .int (xs (4 * n + 1))] Y (post2 Y))
    (hstep : ∀ (k9 : Int32) (Y : St), lpost ["java/lang/IndexOutOfBoundsException"] (fun r => if r = 0 then 0 else 1) post postx k9 Y → ∀ (r : Int32) (Z : St), post2 Y r Z → Z.1 15 0 = k9 ∧ (k9 = 0 → Z.1 27 0 = if r = 0 then 0 else 1))
    (kk : ∀ (k9 : Int32) (Y : St), lpost ["java/lang/IndexOutOfBoundsException"] (fun r => if r = 0 then 0 else 1) post postx k9 Y → ∀ (r : Int32) (Z : St), post2 Y r Z → ∀ (H1 : Heap) (locs1 : List Loc) (ls1 : Array Slot), Wd G Z H1 → va_S (Ab G) s.heap H1 locs1 → lv_has ls1 10 [(7, .int r), (6, .int k9), (0, .ref b), (1, .ref (ad G 715)), (2, .ref (ad G 723)), (3, .ref (ad G 735)), (4, .ref (ad G 736)), (5, .int (nI (4 * n)))] → W p l e room_1 s m args below meth c H1 locs1 (cells + k) (slots + 6 * k) Q (F0 m 2989 ls1 [])) : W p l e room_1 s m args below meth c H locs cells slots Q (F0 m 1810 ls []) := by
  have hx := C.1.1
  have hb := C.1.2.1
  refine lv_aload_n hx hb dL_law_1810 rfl (lv_at hl 1 rfl) ?_
  refine lw_arg C hX hbl hbA hS 1 (by omega) hL (lv_at hl 0 rfl) (lv_at hl 5 rfl) (by decide) dL_law_1811 dL_law_1812 dL_law_1814 dL_law_1815 dL_law_1816 ?_
  refine lv_aload_n hx hb dL_law_1817 rfl (lv_at hl 3 rfl) ?_
  refine g_cxi (vx_runSX (hh := [(0, 16, 19, 13)]) (As := [.ref (ad G 715), .int (xs (4 * n + 1)), .ref (ad G 735)]) (rest := []) C.1 (hL_isFilled l G X (xs (4 * n + 1)) hM hmem) (vx_cwSW 3 C.1.2.2.2.2 (gSW0 qw_1207 qw_1208 qw_70 lW_isFilled) rfl rfl rfl (by decide +kernel) ⟨by show f + 1 + 1 ≤ 2048; omega, by show 8 + (4 + 11) + (n1 + 21) ≤ 94400; omega⟩) (g_pre C hW hS [.ref (ad G 715), .int (xs (4 * n + 1)), .ref (ad G 735)]) rfl rfl hl.1 rfl (lv_room (Nat.le_of_ble_eq_true rfl)) dL_law_1818 ⟨hc, hs⟩) hS (fun _ _ _ _ _ _ _ _ h => h.elim) ?_
  intro k9 Y H1 locs1 hW1 hS1 hp
  refine lv_istore hx hb dL_law_1821 hl (by decide) rfl (fun ls1 hl1 => ?_)
  replace hl1 : lv_has ls1 10 [(6, .int k9), (0, .ref b), (1, .ref (ad G 715)), (2, .ref (ad G 723)), (3, .ref (ad G 735)), (4, .ref (ad G 736)), (5, .int (nI (4 * n)))] := hl1
  refine lv_aload_n hx hb dL_law_1823 rfl (lv_at hl1 3 rfl) ?_
  refine lw_arg C hX hbl hbA hS1 1 (by omega) hL (lv_at hl1 1 rfl) (lv_at hl1 6 rfl) (by decide) dL_law_1824 dL_law_1825 dL_law_1827 dL_law_1828 dL_law_1829 ?_
  refine g_calli (va_runV (As := [.int (xs (4 * n + 1))]) (rest := []) C.1 (hM2 k9 Y hp) (cwV 1 C.1.2.2.2.2 (gV0 qw_1782 qw_1783 qw_1784 qw_81 qw_1785) rfl rfl rfl (by decide +kernel) ⟨by show f2 + 1 ≤ 2048; omega, by show 8 + (2 + 11) + n2 ≤ 94400; omega⟩) (g_rModel C hW1 hS1 [.int (xs (4 * n + 1))]) rfl rfl hl1.1 rfl (lv_room (Nat.le_of_ble_eq_true rfl)) dL_law_1830 ⟨hc, hs⟩) hS1 (fun r Z H2 locs2 hW2 hS2 hp2 => ?_)
  refine lv_istore hx hb dL_law_1833 hl1 (by decide) rfl (fun ls2 hl2 => ?_)
  replace hl2 : lv_has ls2 10 [(7, .int r), (6, .int k9), (0, .ref b), (1, .ref (ad G 715)), (2, .ref (ad G 723)), (3, .ref (ad G 735)), (4, .ref (ad G 736)), (5, .int (nI (4 * n)))] := hl2
  obtain ⟨hs1, hs2⟩ := hstep k9 Y hp r Z hp2
  exact lw_cmpB C hW2 hS2 hl2.1 (lv_at hl2 4 rfl) (lv_at hl2 5 rfl) (lv_at hl2 1 rfl) (lv_at hl2 0 rfl) hs1 hs2 hc hs dL_law_1835 dL_law_1836 dL_law_1839 dL_law_1841 dL_law_1846 dL_law_1848 dL_law_1851 dL_law_1852 dL_law_1853 dL_law_1854 dL_law_1856 dL_law_1859 dL_law_1860 dL_law_1863 dL_law_1864 dL_law_1865 dL_law_1870 (by decide) (fun H3 locs3 h1 h2 => kk k9 Y hp r Z hp2 H3 locs3 ls2 h1 h2 hl2)
end LF
