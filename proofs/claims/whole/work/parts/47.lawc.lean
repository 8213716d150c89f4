/-! The law's cases, one by one: for any contracts of the class's and the reference's methods whose posts agree. -/
section LK
variable {p : Program} {l : Launch} {e : Env} {s : State} {m : MethodId} {args : Array Value} {below : List Frame} {meth : Method} {c : Code} {H : Heap} {locs : List Loc} {cells slots : Nat} {Q : State → Prop}
variable {ls : Array Slot} {G : GT} {X : St} {b L : Nat} {xs : Nat → Int32}
theorem lW_furnaceMass : Cond.codeWith yL_furnaceMass cL_furnaceMass 5 (some .int) [(0, 10, 13, 13), (0, 10, 17, 15)] ∈ lw_all := lw_mem 1073 (by decide +kernel) (by decide +kernel)
set_option maxHeartbeats 2000000 in
theorem lC_furnaceMass (C : Cx p m c cL_law 10 s args lw_all "FoundryLaw" G) (hX : va_X b L xs s s.heap) (hbl : b < s.heap.size) (hbA : ¬ Ab G b) (hS : va_S (Ab G) s.heap H locs) (hW : Wd G X H) {n : Nat} (hj : 4 * n + 3 < L) (hL : L < 2 ^ 31) (hl : lv_has ls 10 [(0, .ref b), (1, .ref (ad G 715)), (2, .ref (ad G 723)), (3, .ref (ad G 735)), (4, .ref (ad G 736)), (5, .int (nI (4 * n)))])
    {k f n1 f2 n2 : Nat} {post : Int32 → St → Prop} {postx : String → St → Prop} {post2 : St → Int32 → St → Prop} (hf : f ≤ 2000) (hn : n1 ≤ 94000) (hf2 : f2 ≤ 2000) (hn2 : n2 ≤ 94000) (hc : cells + k ≤ 714529) (hs : slots + 6 * k ≤ 6893124)
    (hM : MetXI l G k yX7_furnaceMass (wsG yX7_furnaceMass cX7_furnaceMass 3 (some .int)) (rmk k f n1) [.ref (ad G 715), .int (xs (4 * n + 1)), .int (((xs (4 * n + 2)).toUInt32 % 65536).toInt32)] X post postx) (hmem : ∀ (E : String) (Y : St), postx E Y → E ∈ ["java/lang/IndexOutOfBoundsException", "java/lang/IllegalArgumentException"])
    (hM2 : ∀ (k9 : Int32) (Y : St), lpost ["java/lang/IndexOutOfBoundsException", "java/lang/IllegalArgumentException"] id post postx k9 Y → MetI l G yX8_furnaceMass (wsG yX8_furnaceMass cX8_furnaceMass 3 (some .int)) (rmz f2 n2) [.ref (ad G 723), .int (xs (4 * n + 1)), .int (((xs (4 * n + 2)).toUInt32 % 65536).toInt32)] Y (post2 Y))
    (hstep : ∀ (k9 : Int32) (Y : St), lpost ["java/lang/IndexOutOfBoundsException", "java/lang/IllegalArgumentException"] id post postx k9 Y → ∀ (r : Int32) (Z : St), post2 Y r Z → Z.1 15 0 = k9 ∧ (k9 = 0 → Z.1 27 0 = r))
    (kk : ∀ (k9 : Int32) (Y : St), lpost ["java/lang/IndexOutOfBoundsException", "java/lang/IllegalArgumentException"] id post postx k9 Y → ∀ (r : Int32) (Z : St), post2 Y r Z → ∀ (H1 : Heap) (locs1 : List Loc) (ls1 : Array Slot), Wd G Z H1 → va_S (Ab G) s.heap H1 locs1 → lv_has ls1 10 [(7, .int r), (6, .int k9), (0, .ref b), (1, .ref (ad G 715)), (2, .ref (ad G 723)), (3, .ref (ad G 735)), (4, .ref (ad G 736)), (5, .int (nI (4 * n)))] → W p l e room_1 s m args below meth c H1 locs1 (cells + k) (slots + 6 * k) Q (F0 m 2989 ls1 [])) : W p l e room_1 s m args below meth c H locs cells slots Q (F0 m 922 ls []) := by
  have hx := C.1.1
  have hb := C.1.2.1
  refine lv_aload_n hx hb dL_law_922 rfl (lv_at hl 1 rfl) ?_
  refine lw_arg C hX hbl hbA hS 1 (by omega) hL (lv_at hl 0 rfl) (lv_at hl 5 rfl) (by decide) dL_law_923 dL_law_924 dL_law_926 dL_law_927 dL_law_928 ?_
  refine lw_argc C hX hbl hbA hS 2 (by omega) hL (lv_at hl 0 rfl) (lv_at hl 5 rfl) (by decide) dL_law_929 dL_law_930 dL_law_932 dL_law_933 dL_law_934 dL_law_935 ?_
  refine lv_aload_n hx hb dL_law_936 rfl (lv_at hl 3 rfl) ?_
  refine g_cxi (vx_runSX (hh := [(0, 10, 13, 13), (0, 10, 17, 15)]) (As := [.ref (ad G 715), .int (xs (4 * n + 1)), .int (((xs (4 * n + 2)).toUInt32 % 65536).toInt32), .ref (ad G 735)]) (rest := []) C.1 (hL_furnaceMass l G X (xs (4 * n + 1)) (((xs (4 * n + 2)).toUInt32 % 65536).toInt32) hM hmem) (vx_cwSW 4 C.1.2.2.2.2 (gSW0 qw_1071 qw_1072 qw_70 lW_furnaceMass) rfl rfl rfl (by decide +kernel) ⟨by show f + 1 + 1 ≤ 2048; omega, by show 8 + (5 + 11) + (n1 + 22) ≤ 94400; omega⟩) (g_pre C hW hS [.ref (ad G 715), .int (xs (4 * n + 1)), .int (((xs (4 * n + 2)).toUInt32 % 65536).toInt32), .ref (ad G 735)]) rfl rfl hl.1 rfl (lv_room (Nat.le_of_ble_eq_true rfl)) dL_law_937 ⟨hc, hs⟩) hS (fun _ _ _ _ _ _ _ _ h => h.elim) ?_
  intro k9 Y H1 locs1 hW1 hS1 hp
  refine lv_istore hx hb dL_law_940 hl (by decide) rfl (fun ls1 hl1 => ?_)
  replace hl1 : lv_has ls1 10 [(6, .int k9), (0, .ref b), (1, .ref (ad G 715)), (2, .ref (ad G 723)), (3, .ref (ad G 735)), (4, .ref (ad G 736)), (5, .int (nI (4 * n)))] := hl1
  refine lv_aload_n hx hb dL_law_942 rfl (lv_at hl1 3 rfl) ?_
  refine lw_arg C hX hbl hbA hS1 1 (by omega) hL (lv_at hl1 1 rfl) (lv_at hl1 6 rfl) (by decide) dL_law_943 dL_law_944 dL_law_946 dL_law_947 dL_law_948 ?_
  refine lw_argc C hX hbl hbA hS1 2 (by omega) hL (lv_at hl1 1 rfl) (lv_at hl1 6 rfl) (by decide) dL_law_949 dL_law_950 dL_law_952 dL_law_953 dL_law_954 dL_law_955 ?_
  refine g_calli (va_runV (As := [.int (xs (4 * n + 1)), .int (((xs (4 * n + 2)).toUInt32 % 65536).toInt32)]) (rest := []) C.1 (hM2 k9 Y hp) (cwV 2 C.1.2.2.2.2 (gV0 qw_1704 qw_1705 qw_1706 qw_81 qw_1707) rfl rfl rfl (by decide +kernel) ⟨by show f2 + 1 ≤ 2048; omega, by show 8 + (3 + 11) + n2 ≤ 94400; omega⟩) (g_rModel C hW1 hS1 [.int (xs (4 * n + 1)), .int (((xs (4 * n + 2)).toUInt32 % 65536).toInt32)]) rfl rfl hl1.1 rfl (lv_room (Nat.le_of_ble_eq_true rfl)) dL_law_956 ⟨hc, hs⟩) hS1 (fun r Z H2 locs2 hW2 hS2 hp2 => ?_)
  refine lv_istore hx hb dL_law_959 hl1 (by decide) rfl (fun ls2 hl2 => ?_)
  replace hl2 : lv_has ls2 10 [(7, .int r), (6, .int k9), (0, .ref b), (1, .ref (ad G 715)), (2, .ref (ad G 723)), (3, .ref (ad G 735)), (4, .ref (ad G 736)), (5, .int (nI (4 * n)))] := hl2
  obtain ⟨hs1, hs2⟩ := hstep k9 Y hp r Z hp2
  exact lw_cmp C hW2 hS2 hl2.1 (lv_at hl2 4 rfl) (lv_at hl2 5 rfl) (lv_at hl2 1 rfl) (lv_at hl2 0 rfl) hs1 hs2 hc hs dL_law_961 dL_law_962 dL_law_965 dL_law_967 dL_law_972 dL_law_974 dL_law_977 dL_law_978 dL_law_979 dL_law_980 dL_law_982 dL_law_983 dL_law_984 dL_law_989 (by decide) (fun H3 locs3 h1 h2 => kk k9 Y hp r Z hp2 H3 locs3 ls2 h1 h2 hl2)
end LK
