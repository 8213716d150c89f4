/-! The law's turns: counts, checks, positions, output, typing, undo, snapshot. -/
theorem q_err {w15 : Nat → Int32} {x : Int32} (h1 : x = w15 2) (h : x = -1 ∨ 0 ≤ x) : QOk (if x = -1 then (nI 1, 0) else (0, x)) (oM_errorPosition w15) w15 := by
  unfold oM_errorPosition
  by_cases q : x = -1
  · rw [if_pos q, if_neg (by rw [← h1, q]; decide)]
    exact ⟨rfl, fun z => (no1 z).elim⟩
  · rw [if_neg q, if_pos (by rw [← h1]; exact h.resolve_left q)]
    exact ⟨rfl, fun _ => (show upd w15 0 0 2 = w15 2 from pk_un (by decide)).trans h1.symm⟩
theorem q_fail {w15 : Nat → Int32} {x : Int32} (h1 : x = w15 3) (h : x = -1 ∨ 0 ≤ x) : QOk (if x = -1 then (nI 1, 0) else (0, x)) (oM_failedCommand w15) w15 := by
  unfold oM_failedCommand
  by_cases q : x = -1
  · rw [if_pos q, if_neg (by rw [← h1, q]; decide)]
    exact ⟨rfl, fun z => (no1 z).elim⟩
  · rw [if_neg q, if_pos (by rw [← h1]; exact h.resolve_left q)]
    exact ⟨rfl, fun _ => (show upd w15 0 0 3 = w15 3 from pk_un (by decide)).trans h1.symm⟩
theorem q_output {w15 w23 t : Nat → Int32} {n : Nat} (hn : n ≤ 40) (h8 : w15 8 = nI n) (hb : BOk t) (ht : ∀ j, j < n → t j = w23 j) (x : Int32) : QOk (if sOut x (nI n) = 0 then (0, t x.toNatClampNeg) else (nI 1, 0)) (oM_outputAt w15 w23 x) w15 := by
  unfold oM_outputAt
  rw [h8]
  rcases idx_cases (n := n) (by omega) x with ⟨h1, h2⟩ | ⟨f, hf, rfl, h1, h2⟩
  · rw [if_neg h1, if_pos h2]
    exact ⟨rfl, fun z => (no1 z).elim⟩
  · rw [if_pos h1, if_neg h2, nI_clamp (n := f) (by omega)]
    refine ⟨rfl, fun _ => ?_⟩
    obtain ⟨c9, hc, ec⟩ := hb f
    have k : ∀ c, c < 128 → chW (nI c) = nI c := by decide +kernel
    show chW (w23 f) = t f
    rw [← ht f hf, ec, k c9 hc]
section LT2
variable {p : Program} {l : Launch} {e : Env} {s : State} {m : MethodId} {args : Array Value} {below : List Frame} {meth : Method} {c : Code} {H : Heap} {locs : List Loc} {cells slots : Nat} {Q : State → Prop}
variable {ls : Array Slot} {G : GT} {X : St} {b L : Nat} {xs : Nat → Int32}
theorem lT_errorPosition (hst : l.stackTraces = false) (C : Cx p m c cL_law 10 s args lw_all "FoundryLaw" G) (hX : va_X b L xs s s.heap) (hbl : b < s.heap.size) (hbA : ¬ Ab G b) (hS : va_S (Ab G) s.heap H locs) (hW : Wd G X H) {n : Nat} (hj : 4 * n + 3 < L) (hL : L < 2 ^ 31) (hl : lv_has ls 10 [(0, .ref b), (1, .ref (ad G 715)), (2, .ref (ad G 723)), (3, .ref (ad G 735)), (4, .ref (ad G 736)), (5, .int (nI (4 * n)))]) (hI : LInv X) (hc : cells + 7 ≤ 714529) (hs : slots + 42 ≤ 6893124)
    (K : ∀ (Z : St) (H1 : Heap) (locs1 : List Loc) (ls1 : Array Slot), LInv Z → Wd G Z H1 → va_S (Ab G) s.heap H1 locs1 → lv_has ls1 10 [(0, .ref b), (1, .ref (ad G 715)), (2, .ref (ad G 723)), (3, .ref (ad G 735)), (4, .ref (ad G 736)), (5, .int (nI (4 * n)))] → W p l e room_1 s m args below meth c H1 locs1 (cells + 7) (slots + 42) Q (F0 m 2989 ls1 [])) : W p l e room_1 s m args below meth c H locs cells slots Q (F0 m 2800 ls []) := by
  have h6 := hI.2.2.2.2.2.1
  have st : ∀ (k9 : Int32) (Y : St), lpost ["java/util/NoSuchElementException"] id (fun res Y => (¬ X.1 11 1 = -1 ∧ res = X.1 11 1) ∧ Y = X) (fun E Y => (E = "java/util/NoSuchElementException" ∧ X.1 11 1 = -1) ∧ Y = X) k9 Y → ∀ (r : Int32) (Z : St), (r = (oM_errorPosition (Y.1 15)).1 ∧ Z = setRow Y 15 (oM_errorPosition (Y.1 15)).2) → (Z.1 15 0 = k9 ∧ (k9 = 0 → Z.1 27 0 = id r)) ∧ LInv Z := fun k9 Y h =>
    qstep (F := (if X.1 11 1 = -1 then (nI 1, 0) else (0, X.1 11 1))) (by decide) (by decide) (fun u _ _ => oM_errorPosition u) hI (q_err h6.1 h6.2.1) k9 Y (lpost_map (fun r Y h => ⟨⟨by rw [if_neg h.1.1], by rw [if_neg h.1.1]; exact h.1.2⟩, h.2⟩) (fun E Y h => ⟨⟨0, by rw [h.1.1]; first | done | rfl, by rw [if_pos h.1.2]; first | done | rfl⟩, h.2⟩) h)
  exact lC_errorPosition C hX hbl hbA hS hW hj hL hl (by decide) (by decide) (by decide) (by decide) (by omega) (by omega) (cX7_errorPosition_ok l G hst X) (fun E Y h => by rw [h.1.1]; exact List.mem_singleton.mpr rfl) (fun k9 Y h => cX8_errorPosition_ok l G Y) (fun k9 Y h r Z h2 => (st k9 Y h r Z h2).1) (fun k9 Y h r Z h2 H1 locs1 ls1 a1 a2 a3 => W.widen (by omega) (by omega) (K Z H1 locs1 ls1 (st k9 Y h r Z h2).2 a1 a2 (lv_sub2 a3)))
theorem lT_failedCommand (hst : l.stackTraces = false) (C : Cx p m c cL_law 10 s args lw_all "FoundryLaw" G) (hX : va_X b L xs s s.heap) (hbl : b < s.heap.size) (hbA : ¬ Ab G b) (hS : va_S (Ab G) s.heap H locs) (hW : Wd G X H) {n : Nat} (hj : 4 * n + 3 < L) (hL : L < 2 ^ 31) (hl : lv_has ls 10 [(0, .ref b), (1, .ref (ad G 715)), (2, .ref (ad G 723)), (3, .ref (ad G 735)), (4, .ref (ad G 736)), (5, .int (nI (4 * n)))]) (hI : LInv X) (hc : cells + 7 ≤ 714529) (hs : slots + 42 ≤ 6893124)
    (K : ∀ (Z : St) (H1 : Heap) (locs1 : List Loc) (ls1 : Array Slot), LInv Z → Wd G Z H1 → va_S (Ab G) s.heap H1 locs1 → lv_has ls1 10 [(0, .ref b), (1, .ref (ad G 715)), (2, .ref (ad G 723)), (3, .ref (ad G 735)), (4, .ref (ad G 736)), (5, .int (nI (4 * n)))] → W p l e room_1 s m args below meth c H1 locs1 (cells + 7) (slots + 42) Q (F0 m 2989 ls1 [])) : W p l e room_1 s m args below meth c H locs cells slots Q (F0 m 2844 ls []) := by
  have h6 := hI.2.2.2.2.2.1
  have st : ∀ (k9 : Int32) (Y : St), lpost ["java/util/NoSuchElementException"] id (fun res Y => (¬ X.1 11 2 = -1 ∧ res = X.1 11 2) ∧ Y = X) (fun E Y => (E = "java/util/NoSuchElementException" ∧ X.1 11 2 = -1) ∧ Y = X) k9 Y → ∀ (r : Int32) (Z : St), (r = (oM_failedCommand (Y.1 15)).1 ∧ Z = setRow Y 15 (oM_failedCommand (Y.1 15)).2) → (Z.1 15 0 = k9 ∧ (k9 = 0 → Z.1 27 0 = id r)) ∧ LInv Z := fun k9 Y h =>
    qstep (F := (if X.1 11 2 = -1 then (nI 1, 0) else (0, X.1 11 2))) (by decide) (by decide) (fun u _ _ => oM_failedCommand u) hI (q_fail h6.2.2.1 h6.2.2.2) k9 Y (lpost_map (fun r Y h => ⟨⟨by rw [if_neg h.1.1], by rw [if_neg h.1.1]; exact h.1.2⟩, h.2⟩) (fun E Y h => ⟨⟨0, by rw [h.1.1]; first | done | rfl, by rw [if_pos h.1.2]; first | done | rfl⟩, h.2⟩) h)
  exact lC_failedCommand C hX hbl hbA hS hW hj hL hl (by decide) (by decide) (by decide) (by decide) (by omega) (by omega) (cX7_failedCommand_ok l G hst X) (fun E Y h => by rw [h.1.1]; exact List.mem_singleton.mpr rfl) (fun k9 Y h => cX8_failedCommand_ok l G Y) (fun k9 Y h r Z h2 => (st k9 Y h r Z h2).1) (fun k9 Y h r Z h2 H1 locs1 ls1 a1 a2 a3 => W.widen (by omega) (by omega) (K Z H1 locs1 ls1 (st k9 Y h r Z h2).2 a1 a2 (lv_sub2 a3)))
theorem lT_outputAt (hst : l.stackTraces = false) (C : Cx p m c cL_law 10 s args lw_all "FoundryLaw" G) (hX : va_X b L xs s s.heap) (hbl : b < s.heap.size) (hbA : ¬ Ab G b) (hS : va_S (Ab G) s.heap H locs) (hW : Wd G X H) {n : Nat} (hj : 4 * n + 3 < L) (hL : L < 2 ^ 31) (hl : lv_has ls 10 [(0, .ref b), (1, .ref (ad G 715)), (2, .ref (ad G 723)), (3, .ref (ad G 735)), (4, .ref (ad G 736)), (5, .int (nI (4 * n)))]) (hI : LInv X) (hc : cells + 7 ≤ 714529) (hs : slots + 42 ≤ 6893124)
    (K : ∀ (Z : St) (H1 : Heap) (locs1 : List Loc) (ls1 : Array Slot), LInv Z → Wd G Z H1 → va_S (Ab G) s.heap H1 locs1 → lv_has ls1 10 [(0, .ref b), (1, .ref (ad G 715)), (2, .ref (ad G 723)), (3, .ref (ad G 735)), (4, .ref (ad G 736)), (5, .int (nI (4 * n)))] → W p l e room_1 s m args below meth c H1 locs1 (cells + 7) (slots + 42) Q (F0 m 2989 ls1 [])) : W p l e room_1 s m args below meth c H locs cells slots Q (F0 m 2642 ls []) := by
  obtain ⟨cp, k, hcp, hk, hcap, h8, h10, h15, hby, ht⟩ := hI.2.2.2.2.2.2
  have st : ∀ (k9 : Int32) (Y : St), lpost ["java/lang/IndexOutOfBoundsException"] id (fun res Y => (sOut (xs (4 * n + 1)) (nI k) = 0 ∧ res = X.2.2.2.1 ((xs (4 * n + 1))).toNatClampNeg) ∧ Y = X) (fun E Y => (E = "java/lang/IndexOutOfBoundsException" ∧ ¬ sOut (xs (4 * n + 1)) (nI k) = 0) ∧ Y = X) k9 Y → ∀ (r : Int32) (Z : St), (r = (oM_outputAt (Y.1 15) (Y.1 23) (xs (4 * n + 1))).1 ∧ Z = setRow Y 15 (oM_outputAt (Y.1 15) (Y.1 23) (xs (4 * n + 1))).2) → Y.1 15 8 = nI k ∧ (Z.1 15 0 = k9 ∧ (k9 = 0 → Z.1 27 0 = id r)) ∧ LInv Z := fun k9 Y h r Z h2 => by
    have h' : lpost ["java/lang/IndexOutOfBoundsException"] id (qpo (if sOut (xs (4 * n + 1)) (nI k) = 0 then (0, X.2.2.2.1 ((xs (4 * n + 1))).toNatClampNeg) else (nI 1, 0)) X) (qpx ["java/lang/IndexOutOfBoundsException"] (if sOut (xs (4 * n + 1)) (nI k) = 0 then (0, X.2.2.2.1 ((xs (4 * n + 1))).toNatClampNeg) else (nI 1, 0)) X) k9 Y := lpost_map (fun r Y h => ⟨⟨by rw [if_pos h.1.1], by rw [if_pos h.1.1]; exact h.1.2⟩, h.2⟩) (fun E Y h => ⟨⟨0, by rw [h.1.1]; first | done | rfl, by rw [if_neg h.1.2]; first | done | rfl⟩, h.2⟩) h
    obtain ⟨-, x, e9, -⟩ := qs_of (by decide) (by decide) h'
    have e23 : Y.1 23 = X.1 23 := by rw [e9]; exact sp_ne (by decide)
    have e15 : Y.1 15 = X.1 15 := by rw [e9]; exact sp_ne (by decide)
    rw [e23] at h2
    exact ⟨by rw [e15]; exact h15, qstep (by decide) (by decide) (fun u _ _ => oM_outputAt u (X.1 23) (xs (4 * n + 1))) hI (q_output (by omega) h15 hby ht (xs (4 * n + 1))) k9 Y h' r Z h2⟩
  have s8 : ∀ (k9 : Int32) (Y : St), lpost ["java/lang/IndexOutOfBoundsException"] id (fun res Y => (sOut (xs (4 * n + 1)) (nI k) = 0 ∧ res = X.2.2.2.1 ((xs (4 * n + 1))).toNatClampNeg) ∧ Y = X) (fun E Y => (E = "java/lang/IndexOutOfBoundsException" ∧ ¬ sOut (xs (4 * n + 1)) (nI k) = 0) ∧ Y = X) k9 Y → Y.1 15 8 = nI k := fun k9 Y h => (st k9 Y h _ _ ⟨rfl, rfl⟩).1
  exact lC_outputAt C hX hbl hbA hS hW hj hL hl (by decide) (by decide) (by decide) (by decide) (by omega) (by omega) (cX7_outputAt_ok l G hst X cp hcp hcap h8 k h10 hk (fun j _ => hby j) (xs (4 * n + 1))) (fun E Y h => by rw [h.1.1]; exact List.mem_singleton.mpr rfl) (fun k9 Y h => cX8_outputAt_ok l G Y (xs (4 * n + 1)) k (by omega) (s8 k9 Y h)) (fun k9 Y h r Z h2 => (st k9 Y h r Z h2).2.1) (fun k9 Y h r Z h2 H1 locs1 ls1 a1 a2 a3 => W.widen (by omega) (by omega) (K Z H1 locs1 ls1 (st k9 Y h r Z h2).2.2 a1 a2 (lv_sub2 a3)))
theorem lT_mouldCount (hst : l.stackTraces = false) (C : Cx p m c cL_law 10 s args lw_all "FoundryLaw" G) (hX : va_X b L xs s s.heap) (hbl : b < s.heap.size) (hbA : ¬ Ab G b) (hS : va_S (Ab G) s.heap H locs) (hW : Wd G X H) {n : Nat} (hj : 4 * n + 3 < L) (hL : L < 2 ^ 31) (hl : lv_has ls 10 [(0, .ref b), (1, .ref (ad G 715)), (2, .ref (ad G 723)), (3, .ref (ad G 735)), (4, .ref (ad G 736)), (5, .int (nI (4 * n)))]) (hI : LInv X) (hc : cells + 7 ≤ 714529) (hs : slots + 42 ≤ 6893124)
    (K : ∀ (Z : St) (H1 : Heap) (locs1 : List Loc) (ls1 : Array Slot), LInv Z → Wd G Z H1 → va_S (Ab G) s.heap H1 locs1 → lv_has ls1 10 [(0, .ref b), (1, .ref (ad G 715)), (2, .ref (ad G 723)), (3, .ref (ad G 735)), (4, .ref (ad G 736)), (5, .int (nI (4 * n)))] → W p l e room_1 s m args below meth c H1 locs1 (cells + 7) (slots + 42) Q (F0 m 2989 ls1 [])) : W p l e room_1 s m args below meth c H locs cells slots Q (F0 m 1741 ls []) := by
  exact lC_mouldCount C hS hW hl (by decide) (by decide) (by decide) (by decide) (by omega) (by omega) (cX7_mouldCount_ok l G X) (fun r Y h => cX8_mouldCount_ok l G Y) (fun r Y h r2 Z h2 => by rw [h.1, h2.1, h.2]; exact hI.1.2.1 42 (by decide)) (fun r Y h Z h2 H1 locs1 a1 a2 => W.widen (by omega) (by omega) (K Z H1 locs1 ls (by rw [h2.2, h.2]; exact hI.thrown 0) a1 a2 hl))
theorem lT_ingotCount (hst : l.stackTraces = false) (C : Cx p m c cL_law 10 s args lw_all "FoundryLaw" G) (hX : va_X b L xs s s.heap) (hbl : b < s.heap.size) (hbA : ¬ Ab G b) (hS : va_S (Ab G) s.heap H locs) (hW : Wd G X H) {n : Nat} (hj : 4 * n + 3 < L) (hL : L < 2 ^ 31) (hl : lv_has ls 10 [(0, .ref b), (1, .ref (ad G 715)), (2, .ref (ad G 723)), (3, .ref (ad G 735)), (4, .ref (ad G 736)), (5, .int (nI (4 * n)))]) (hI : LInv X) (hc : cells + 7 ≤ 714529) (hs : slots + 42 ≤ 6893124)
    (K : ∀ (Z : St) (H1 : Heap) (locs1 : List Loc) (ls1 : Array Slot), LInv Z → Wd G Z H1 → va_S (Ab G) s.heap H1 locs1 → lv_has ls1 10 [(0, .ref b), (1, .ref (ad G 715)), (2, .ref (ad G 723)), (3, .ref (ad G 735)), (4, .ref (ad G 736)), (5, .int (nI (4 * n)))] → W p l e room_1 s m args below meth c H1 locs1 (cells + 7) (slots + 42) Q (F0 m 2989 ls1 [])) : W p l e room_1 s m args below meth c H locs cells slots Q (F0 m 1943 ls []) := by
  exact lC_ingotCount C hS hW hl (by decide) (by decide) (by decide) (by decide) (by omega) (by omega) (cX7_ingotCount_ok l G X) (fun r Y h => cX8_ingotCount_ok l G Y) (fun r Y h r2 Z h2 => by rw [h.1, h2.1, h.2]; exact hI.1.2.1 43 (by decide)) (fun r Y h Z h2 H1 locs1 a1 a2 => W.widen (by omega) (by omega) (K Z H1 locs1 ls (by rw [h2.2, h.2]; exact hI.thrown 0) a1 a2 hl))
theorem lT_time (hst : l.stackTraces = false) (C : Cx p m c cL_law 10 s args lw_all "FoundryLaw" G) (hX : va_X b L xs s s.heap) (hbl : b < s.heap.size) (hbA : ¬ Ab G b) (hS : va_S (Ab G) s.heap H locs) (hW : Wd G X H) {n : Nat} (hj : 4 * n + 3 < L) (hL : L < 2 ^ 31) (hl : lv_has ls 10 [(0, .ref b), (1, .ref (ad G 715)), (2, .ref (ad G 723)), (3, .ref (ad G 735)), (4, .ref (ad G 736)), (5, .int (nI (4 * n)))]) (hI : LInv X) (hc : cells + 7 ≤ 714529) (hs : slots + 42 ≤ 6893124)
    (K : ∀ (Z : St) (H1 : Heap) (locs1 : List Loc) (ls1 : Array Slot), LInv Z → Wd G Z H1 → va_S (Ab G) s.heap H1 locs1 → lv_has ls1 10 [(0, .ref b), (1, .ref (ad G 715)), (2, .ref (ad G 723)), (3, .ref (ad G 735)), (4, .ref (ad G 736)), (5, .int (nI (4 * n)))] → W p l e room_1 s m args below meth c H1 locs1 (cells + 7) (slots + 42) Q (F0 m 2989 ls1 [])) : W p l e room_1 s m args below meth c H locs cells slots Q (F0 m 2208 ls []) := by
  exact lC_time C hS hW hl (by decide) (by decide) (by decide) (by decide) (by omega) (by omega) (cX7_time_ok l G X) (fun r Y h => cX8_time_ok l G Y) (fun r Y h r2 Z h2 => by rw [h.1, h2.1, h.2]; exact hI.1.2.1 0 (by decide)) (fun r Y h Z h2 H1 locs1 a1 a2 => W.widen (by omega) (by omega) (K Z H1 locs1 ls (by rw [h2.2, h.2]; exact hI.thrown 0) a1 a2 hl))
theorem lT_isConsistent (hst : l.stackTraces = false) (C : Cx p m c cL_law 10 s args lw_all "FoundryLaw" G) (hX : va_X b L xs s s.heap) (hbl : b < s.heap.size) (hbA : ¬ Ab G b) (hS : va_S (Ab G) s.heap H locs) (hW : Wd G X H) {n : Nat} (hj : 4 * n + 3 < L) (hL : L < 2 ^ 31) (hl : lv_has ls 10 [(0, .ref b), (1, .ref (ad G 715)), (2, .ref (ad G 723)), (3, .ref (ad G 735)), (4, .ref (ad G 736)), (5, .int (nI (4 * n)))]) (hI : LInv X) (hc : cells + 7 ≤ 714529) (hs : slots + 42 ≤ 6893124)
    (K : ∀ (Z : St) (H1 : Heap) (locs1 : List Loc) (ls1 : Array Slot), LInv Z → Wd G Z H1 → va_S (Ab G) s.heap H1 locs1 → lv_has ls1 10 [(0, .ref b), (1, .ref (ad G 715)), (2, .ref (ad G 723)), (3, .ref (ad G 735)), (4, .ref (ad G 736)), (5, .int (nI (4 * n)))] → W p l e room_1 s m args below meth c H1 locs1 (cells + 7) (slots + 42) Q (F0 m 2989 ls1 [])) : W p l e room_1 s m args below meth c H locs cells slots Q (F0 m 2560 ls []) := by
  have hF : FI (X.1 16) := hI.1.1
  have cr : ∀ w, oM_isConsistent w (X.1 16) = (1, upd w 0 0) := fun w => cons_ref hF
  exact lC_isConsistent C hS hW hl (by decide) (by decide) (by decide) (by decide) (by omega) (by omega) (cX7_isConsistent_ok l G X hI.pinv) (fun r Y h => cX8_isConsistent_ok l G Y (by rw [h.2]; exact hF.1)) (fun r Y h r2 Z h2 => by rw [h.1, h2.1, h.2, cr]; exact cons_cls hI.1.2 hF hI.2.1.1) (fun r Y h Z h2 H1 locs1 a1 a2 => W.widen (by omega) (by omega) (K Z H1 locs1 ls (by rw [h2.2, h.2, cr]; exact hI.thrown 0) a1 a2 hl))
theorem lT_meanTemperature (hst : l.stackTraces = false) (C : Cx p m c cL_law 10 s args lw_all "FoundryLaw" G) (hX : va_X b L xs s s.heap) (hbl : b < s.heap.size) (hbA : ¬ Ab G b) (hS : va_S (Ab G) s.heap H locs) (hW : Wd G X H) {n : Nat} (hj : 4 * n + 3 < L) (hL : L < 2 ^ 31) (hl : lv_has ls 10 [(0, .ref b), (1, .ref (ad G 715)), (2, .ref (ad G 723)), (3, .ref (ad G 735)), (4, .ref (ad G 736)), (5, .int (nI (4 * n)))]) (hI : LInv X) (hc : cells + 7 ≤ 714529) (hs : slots + 42 ≤ 6893124)
    (K : ∀ (Z : St) (H1 : Heap) (locs1 : List Loc) (ls1 : Array Slot), LInv Z → Wd G Z H1 → va_S (Ab G) s.heap H1 locs1 → lv_has ls1 10 [(0, .ref b), (1, .ref (ad G 715)), (2, .ref (ad G 723)), (3, .ref (ad G 735)), (4, .ref (ad G 736)), (5, .int (nI (4 * n)))] → W p l e room_1 s m args below meth c H1 locs1 (cells + 7) (slots + 42) Q (F0 m 2989 ls1 [])) : W p l e room_1 s m args below meth c H locs cells slots Q (F0 m 2453 ls []) := by
  exact lC_meanTemperature C hS hW hl (by decide) (by decide) (by decide) (by decide) (by omega) (by omega) (cX7_meanTemperature_ok l G X) (fun r Y h => cX8_meanTemperature_ok l G Y) (fun r Y h r2 Z h2 => by rw [h.1, h2.1, h.2, mt_eq hI.1.2]) (fun r Y h => by rw [h.1]; exact fl_mean _) (fun r Y h Z h2 H1 locs1 ls1 a1 a2 a3 => W.widen (by omega) (by omega) (K Z H1 locs1 ls1 (by rw [h2.2, h.2]; exact hI.thrown 0) a1 a2 (lv_sub2 a3)))
theorem lT_slagRate (hst : l.stackTraces = false) (C : Cx p m c cL_law 10 s args lw_all "FoundryLaw" G) (hX : va_X b L xs s s.heap) (hbl : b < s.heap.size) (hbA : ¬ Ab G b) (hS : va_S (Ab G) s.heap H locs) (hW : Wd G X H) {n : Nat} (hj : 4 * n + 3 < L) (hL : L < 2 ^ 31) (hl : lv_has ls 10 [(0, .ref b), (1, .ref (ad G 715)), (2, .ref (ad G 723)), (3, .ref (ad G 735)), (4, .ref (ad G 736)), (5, .int (nI (4 * n)))]) (hI : LInv X) (hc : cells + 7 ≤ 714529) (hs : slots + 42 ≤ 6893124)
    (K : ∀ (Z : St) (H1 : Heap) (locs1 : List Loc) (ls1 : Array Slot), LInv Z → Wd G Z H1 → va_S (Ab G) s.heap H1 locs1 → lv_has ls1 10 [(0, .ref b), (1, .ref (ad G 715)), (2, .ref (ad G 723)), (3, .ref (ad G 735)), (4, .ref (ad G 736)), (5, .int (nI (4 * n)))] → W p l e room_1 s m args below meth c H1 locs1 (cells + 7) (slots + 42) Q (F0 m 2989 ls1 [])) : W p l e room_1 s m args below meth c H locs cells slots Q (F0 m 2494 ls []) := by
  have hR : Rel (X.1 0) (X.1 16) := hI.1.2
  have e1 : sumW (X.1 0) 1 = oM_mass (X.1 16) 1 := sum_congr fun k hk => hR.1 _ (by omega)
  have e5 : sumW (X.1 0) 5 = oM_mass (X.1 16) 5 := sum_congr fun k hk => hR.1 _ (by omega)
  have st : ∀ (k9 : Int32) (Y : St), lpostD ["java/lang/ArithmeticException"] (fun res Y => (¬ sumW (X.1 0) 1 = 0 ∧ res = rateF (sumW (X.1 0) 5) (sumW (X.1 0) 1)) ∧ Y = X) (fun E Y => (E = "java/lang/ArithmeticException" ∧ sumW (X.1 0) 1 = 0) ∧ Y = X) k9 Y → ∀ (r : UInt32) (Z : St), (r = srM (Y.1 16) ∧ Z = setRow Y 15 (upd (Y.1 15) 0 (if oM_mass (Y.1 16) 1 = 0 then 1 else 0))) → (Z.1 15 0 = k9 ∧ (k9 = 0 → Z.2.2.2.2 = FP.f2d r ∧ FP.Core.fIsNaN r = false)) ∧ LInv Z := fun k9 Y h r Z h2 => by
    rcases h with ⟨h0, r0, Y0, ⟨⟨h3, h4⟩, h5⟩, h6⟩ | ⟨i, E, h3, h4, ⟨h5, h6⟩, h7⟩
    · subst h5
      have y15 : Y.1 15 = Y0.1 15 := by rw [h6]; rfl
      have y16 : Y.1 16 = Y0.1 16 := by rw [h6]; rfl
      rw [y15, y16, if_neg (by rw [← e1]; exact h3)] at h2
      obtain ⟨h8, rfl⟩ := h2
      have hr : r = r0 := by
        rw [h8, h4]
        unfold srM
        rw [if_neg (by rw [← e1]; exact h3), e1, e5]
      refine ⟨⟨by rw [sr_at, pk_us, h0], fun _ => ⟨?_, ?_⟩⟩, ?_⟩
      · rw [hr, h6]
        rfl
      · rw [hr, h4]
        exact fl_rate _ h3
      · exact hI.congr (fun r _ _ _ h1 _ _ _ => by rw [sr_ne h1, h6]; rfl) (fun j hj => by rw [sr_at, pk_un (by omega)]) (by rw [h6]; rfl) (by rw [h6]; rfl)
    · subst h7
      rw [if_pos (by rw [← e1]; exact h6)] at h2
      obtain ⟨h8, rfl⟩ := h2
      have hi : i = 0 := by
        have := nd_lt h3
        simp at this
        omega
      subst hi
      refine ⟨⟨by rw [sr_at, pk_us, h4]; rfl, fun q => ?_⟩, hI.thrown 1⟩
      rw [h4] at q
      exact absurd q (by decide)
  exact lC_slagRate C hS hW hl (by decide) (by decide) (by decide) (by decide) (by omega) (by omega) (cX7_slagRate_ok l G hst X) (fun r Y h => by rw [h.1.2]; exact fl_rate _ h.1.1) (fun E Y h => by rw [h.1.1]; exact List.mem_singleton.mpr rfl) (fun k9 Y h => cX8_slagRate_ok l G Y) (fun k9 Y h r Z h2 => (st k9 Y h r Z h2).1) (fun k9 Y h r Z h2 H1 locs1 ls1 a1 a2 a3 => W.widen (by omega) (by omega) (K Z H1 locs1 ls1 (st k9 Y h r Z h2).2 a1 a2 (lv_sub2 a3)))
theorem lT_save (hst : l.stackTraces = false) (C : Cx p m c cL_law 10 s args lw_all "FoundryLaw" G) (hX : va_X b L xs s s.heap) (hbl : b < s.heap.size) (hbA : ¬ Ab G b) (hS : va_S (Ab G) s.heap H locs) (hW : Wd G X H) {n : Nat} (hj : 4 * n + 3 < L) (hL : L < 2 ^ 31) (hl : lv_has ls 10 [(0, .ref b), (1, .ref (ad G 715)), (2, .ref (ad G 723)), (3, .ref (ad G 735)), (4, .ref (ad G 736)), (5, .int (nI (4 * n)))]) (hI : LInv X) (hc : cells + 7 ≤ 714529) (hs : slots + 42 ≤ 6893124)
    (K : ∀ (Z : St) (H1 : Heap) (locs1 : List Loc) (ls1 : Array Slot), LInv Z → Wd G Z H1 → va_S (Ab G) s.heap H1 locs1 → lv_has ls1 10 [(0, .ref b), (1, .ref (ad G 715)), (2, .ref (ad G 723)), (3, .ref (ad G 735)), (4, .ref (ad G 736)), (5, .int (nI (4 * n)))] → W p l e room_1 s m args below meth c H1 locs1 (cells + 7) (slots + 42) Q (F0 m 2989 ls1 [])) : W p l e room_1 s m args below meth c H locs cells slots Q (F0 m 2932 ls []) := by
  have hF : FI (X.1 16) := hI.1.1
  have hR : Rel (X.1 0) (X.1 16) := hI.1.2
  refine lC_save C hS hW hl (by decide) (by decide) (by decide) (by decide) (by omega) (by omega) (cX7_save_ok l G X) (fun r Y h => cX8_save_ok l G Y) (fun r Y h r2 Z h2 => by rw [h.1, h2.1, h.2, show (setRow (setRow X 10 (cpPlantR (X.1 10) (X.1 0))) 11 (upd (X.1 11) 0 1)).1 16 = X.1 16 from rfl]; exact hR.1 43 (by decide)) (fun r Y h Z h2 H1 locs1 a1 a2 => W.widen (by omega) (by omega) (K Z H1 locs1 ls ?_ a1 a2 hl))
  obtain ⟨-, rfl⟩ := h
  obtain ⟨-, rfl⟩ := h2
  obtain ⟨h1, h2, ⟨sp, cn, c1, c2, c3, c4, c5, c6⟩, -, h5, h6, h7⟩ := hI
  refine ⟨h1, h2, ⟨sp, cn, c1, c2, c3, c4, c5, fun k hk => ?_⟩, .inr ⟨rfl, rfl, hF.cpt, (hR.cpPlant hF).cpt hF⟩, h5, h6, h7⟩
  have t := c6 k hk
  have e9 : (setRow (setRow (setRow (setRow X 10 (cpPlantR (X.1 10) (X.1 0))) 11 (upd (X.1 11) 0 1)) 15 (oM_save (X.1 15) (X.1 16) (X.1 18)).2.1) 18 (oM_save (X.1 15) (X.1 16) (X.1 18)).2.2).1 ((sp + 8 - k) % 9 + 1) = X.1 ((sp + 8 - k) % 9 + 1) := by
    rw [sr_ne (by omega), sr_ne (by omega), sr_ne (by omega), sr_ne (by omega)]
  refine ⟨t.1, ?_⟩
  have t2 := t.2
  rw [← e9] at t2
  exact t2
theorem lT_restore (hst : l.stackTraces = false) (C : Cx p m c cL_law 10 s args lw_all "FoundryLaw" G) (hX : va_X b L xs s s.heap) (hbl : b < s.heap.size) (hbA : ¬ Ab G b) (hS : va_S (Ab G) s.heap H locs) (hW : Wd G X H) {n : Nat} (hj : 4 * n + 3 < L) (hL : L < 2 ^ 31) (hl : lv_has ls 10 [(0, .ref b), (1, .ref (ad G 715)), (2, .ref (ad G 723)), (3, .ref (ad G 735)), (4, .ref (ad G 736)), (5, .int (nI (4 * n)))]) (hI : LInv X) (hc : cells + 7 ≤ 714529) (hs : slots + 42 ≤ 6893124)
    (K : ∀ (Z : St) (H1 : Heap) (locs1 : List Loc) (ls1 : Array Slot), LInv Z → Wd G Z H1 → va_S (Ab G) s.heap H1 locs1 → lv_has ls1 10 [(0, .ref b), (1, .ref (ad G 715)), (2, .ref (ad G 723)), (3, .ref (ad G 735)), (4, .ref (ad G 736)), (5, .int (nI (4 * n)))] → W p l e room_1 s m args below meth c H1 locs1 (cells + 7) (slots + 42) Q (F0 m 2989 ls1 [])) : W p l e room_1 s m args below meth c H locs cells slots Q (F0 m 2945 ls []) := by
  have hF : FI (X.1 16) := hI.1.1
  have hR : Rel (X.1 0) (X.1 16) := hI.1.2
  have st : ∀ (k9 : Int32) (Y : St), lpost ["java/lang/IllegalStateException"] id (fun res Y => (¬ X.1 11 0 = 0 ∧ res = cpPlantR (X.1 0) (X.1 10) 43) ∧ Y = setRow (setRow X 0 (cpPlantR (X.1 0) (X.1 10))) 11 (upd (X.1 11) (4) 0)) (fun E Y => (E = "java/lang/IllegalStateException" ∧ X.1 11 0 = 0) ∧ Y = X) k9 Y → ∀ (r : Int32) (Z : St), (r = (oM_restore (Y.1 15) (Y.1 16) (Y.1 18)).1 ∧ Z = setRow (setRow Y 15 (oM_restore (Y.1 15) (Y.1 16) (Y.1 18)).2.1) 16 (oM_restore (Y.1 15) (Y.1 16) (Y.1 18)).2.2) → (Z.1 15 0 = k9 ∧ (k9 = 0 → Z.1 27 0 = r)) ∧ LInv Z := fun k9 Y h r Z h2 => by
    rcases h with ⟨h0, r0, Y0, ⟨⟨h3, h4⟩, h5⟩, h6⟩ | ⟨i, E, h3, h4, ⟨h5, h6⟩, h7⟩
    · obtain ⟨s1, s2, s3, s4⟩ := hI.2.2.2.1.resolve_left fun z => h3 z.1
      have y15 : Y.1 15 = X.1 15 := by rw [h6, h5]; rfl
      have y16 : Y.1 16 = X.1 16 := by rw [h6, h5]; rfl
      have y18 : Y.1 18 = X.1 18 := by rw [h6, h5]; rfl
      have e : oM_restore (X.1 15) (X.1 16) (X.1 18) = (cpT 128 (X.1 16) (X.1 18) 43, upd (upd (X.1 15) 0 0) 1 0, cpT 128 (X.1 16) (X.1 18)) := by
        unfold oM_restore
        rw [if_neg (by rw [s2]; decide)]
      rw [y15, y16, y18, e] at h2
      obtain ⟨h8, rfl⟩ := h2
      have h8 : r = cpT 128 (X.1 16) (X.1 18) 43 := h8
      refine ⟨⟨by rw [h0]; rfl, fun _ => ?_⟩, ?_⟩
      · rw [h8, h6, show cpT 128 (X.1 16) (X.1 18) 43 = X.1 18 43 from if_pos (by decide), ← s4.1 43 (by decide), ← cpP_at (w := X.1 0) (v := X.1 10) (j := 43) (by decide) (by omega), ← h4]
        rfl
      · obtain ⟨g1, g2, ⟨sp, cn, c1, c2, c3, c4, c5, c6⟩, g4, g5, g6, g7⟩ := hI
        rw [h6, h5]
        exact ⟨⟨s3.cpt, (s4.cpPlant s3).cpt s3⟩, g2, ⟨sp, 0, c1, by decide, c3, rfl, rfl, fun k hk => absurd hk (by omega)⟩, .inr ⟨s1, s2, s3, s4⟩, g5, g6, g7⟩
    · obtain ⟨s1, s2⟩ := hI.2.2.2.1.resolve_right fun z => absurd (h6.symm.trans z.1) (by decide)
      subst h7
      have e : oM_restore (Y.1 15) (Y.1 16) (Y.1 18) = (0, upd (Y.1 15) 0 1, Y.1 16) := by
        unfold oM_restore
        rw [if_pos s2]
      rw [e] at h2
      obtain ⟨h8, rfl⟩ := h2
      have hi : i = 0 := by
        have := nd_lt h3
        simp at this
        omega
      subst hi
      refine ⟨⟨by rw [h4]; rfl, fun q => ?_⟩, ?_⟩
      · rw [h4] at q
        exact absurd q (by decide)
      · exact hI.congr (fun r _ _ _ q1 _ _ _ => by
          by_cases z : r = 16
          · rw [z, sr_at]
          · rw [sr_ne z, sr_ne q1]) (fun j hj => by rw [sr_ne (by decide), sr_at]; exact pk_un (by omega)) rfl rfl
  exact lC_restore C hX hbl hbA hS hW hj hL hl (by decide) (by decide) (by decide) (by decide) (by omega) (by omega) (cX7_restore_ok l G hst X) (fun E Y h => by rw [h.1.1]; exact List.mem_singleton.mpr rfl) (fun k9 Y h => cX8_restore_ok l G Y) (fun k9 Y h r Z h2 => (st k9 Y h r Z h2).1) (fun k9 Y h r Z h2 H1 locs1 ls1 a1 a2 a3 => W.widen (by omega) (by omega) (K Z H1 locs1 ls1 (st k9 Y h r Z h2).2 a1 a2 (lv_sub2 a3)))
theorem lT_undo (hst : l.stackTraces = false) (C : Cx p m c cL_law 10 s args lw_all "FoundryLaw" G) (hX : va_X b L xs s s.heap) (hbl : b < s.heap.size) (hbA : ¬ Ab G b) (hS : va_S (Ab G) s.heap H locs) (hW : Wd G X H) {n : Nat} (hj : 4 * n + 3 < L) (hL : L < 2 ^ 31) (hl : lv_has ls 10 [(0, .ref b), (1, .ref (ad G 715)), (2, .ref (ad G 723)), (3, .ref (ad G 735)), (4, .ref (ad G 736)), (5, .int (nI (4 * n)))]) (hI : LInv X) (hc : cells + 7 ≤ 714529) (hs : slots + 42 ≤ 6893124)
    (K : ∀ (Z : St) (H1 : Heap) (locs1 : List Loc) (ls1 : Array Slot), LInv Z → Wd G Z H1 → va_S (Ab G) s.heap H1 locs1 → lv_has ls1 10 [(0, .ref b), (1, .ref (ad G 715)), (2, .ref (ad G 723)), (3, .ref (ad G 735)), (4, .ref (ad G 736)), (5, .int (nI (4 * n)))] → W p l e room_1 s m args below meth c H1 locs1 (cells + 7) (slots + 42) Q (F0 m 2989 ls1 [])) : W p l e room_1 s m args below meth c H locs cells slots Q (F0 m 2888 ls []) := by
  have hF : FI (X.1 16) := hI.1.1
  have hR : Rel (X.1 0) (X.1 16) := hI.1.2
  obtain ⟨sp, cn, hsp, hcn, es, ec, ecr, hh⟩ := hI.2.2.1
  rcases Nat.eq_zero_or_pos cn with rfl | hc0
  · have st : ∀ (k9 : Int32) (Y : St), lpost ["java/util/NoSuchElementException"] id (fun _ _ => False) (fun E Y => E = "java/util/NoSuchElementException" ∧ Y = X) k9 Y → Y = X ∧ k9 = nI 1 := fun k9 Y h => by
      rcases h with ⟨-, -, -, h3, -⟩ | ⟨i, E, h3, h4, h5, h6⟩
      · exact h3.elim
      · have hi : i = 0 := by
          have := nd_lt h3
          simp at this
          omega
        rw [hi] at h4
        exact ⟨h6, h4⟩
    have e : oM_undo (X.1 15) (X.1 16) (X.1 19) = (0, upd (X.1 15) 0 1, X.1 16) := if_pos ecr
    have fin : ∀ (k9 : Int32) (Y : St), lpost ["java/util/NoSuchElementException"] id (fun _ _ => False) (fun E Y => E = "java/util/NoSuchElementException" ∧ Y = X) k9 Y → ∀ (r : Int32) (Z : St), (r = (oM_undo (Y.1 15) (Y.1 16) (Y.1 19)).1 ∧ Z = setRow (setRow Y 15 (oM_undo (Y.1 15) (Y.1 16) (Y.1 19)).2.1) 16 (oM_undo (Y.1 15) (Y.1 16) (Y.1 19)).2.2) → (Z.1 15 0 = k9 ∧ (k9 = 0 → Z.1 27 0 = r)) ∧ LInv Z := fun k9 Y h r Z h2 => by
      obtain ⟨rfl, h4⟩ := st k9 Y h
      rw [e] at h2
      obtain ⟨h8, rfl⟩ := h2
      refine ⟨⟨by rw [h4]; rfl, fun q => ?_⟩, ?_⟩
      · rw [h4] at q
        exact absurd q (by decide)
      · exact hI.congr (fun r _ _ _ q1 _ _ _ => by
          by_cases z : r = 16
          · rw [z, sr_at]
          · rw [sr_ne z, sr_ne q1]) (fun j hj => by rw [sr_ne (by decide), sr_at]; exact pk_un (by omega)) rfl rfl
    exact lC_undo C hX hbl hbA hS hW hj hL hl (by decide) (by decide) (by decide) (by decide) (by omega) (by omega) (cX7_undo0_ok l G hst X sp hsp es ec) (fun E Y h => by rw [h.1]; exact List.mem_singleton.mpr rfl) (fun k9 Y h => cX8_undo_ok l G Y 0 (by decide) (by rw [(st k9 Y h).1]; exact ecr)) (fun k9 Y h r Z h2 => (fin k9 Y h r Z h2).1) (fun k9 Y h r Z h2 H1 locs1 ls1 a1 a2 a3 => W.widen (by omega) (by omega) (K Z H1 locs1 ls1 (fin k9 Y h r Z h2).2 a1 a2 (lv_sub2 a3)))
  · have st : ∀ (k9 : Int32) (Y : St), lpost ["java/util/NoSuchElementException"] id (fun res Y => res = nI (cn - 1) ∧ Y = setRow (setRow X 11 (upd (upd (X.1 11) (3) (nI ((sp + 9 - 1) % 9))) (4) (nI (cn - 1)))) 0 (cpPlantR (X.1 0) (X.1 ((sp + 9 - 1) % 9 + 1)))) (fun _ _ => False) k9 Y → k9 = 0 ∧ Y = sup (setRow (setRow X 11 (upd (upd (X.1 11) (3) (nI ((sp + 9 - 1) % 9))) (4) (nI (cn - 1)))) 0 (cpPlantR (X.1 0) (X.1 ((sp + 9 - 1) % 9 + 1)))) 27 0 (nI (cn - 1)) := fun k9 Y h => by
      rcases h with ⟨h0, r0, Y0, ⟨h3, h4⟩, h5⟩ | ⟨i, E, h3, h4, h5⟩
      · rw [h4, h3] at h5
        exact ⟨h0, h5⟩
      · exact h5.elim
    have e : oM_undo (X.1 15) (X.1 16) (X.1 19) = (nI (cn - 1), upd (upd (X.1 15) 0 0) 1 (nI (cn - 1)), cpT 128 (X.1 16) (fun j => X.1 19 ((cn - 1) * 128 + j))) := by
      unfold oM_undo
      rw [ecr, if_neg (nI_ne0 hc0 (by omega)), nI_clamp (n := cn) (by omega)]
    have fin : ∀ (k9 : Int32) (Y : St), lpost ["java/util/NoSuchElementException"] id (fun res Y => res = nI (cn - 1) ∧ Y = setRow (setRow X 11 (upd (upd (X.1 11) (3) (nI ((sp + 9 - 1) % 9))) (4) (nI (cn - 1)))) 0 (cpPlantR (X.1 0) (X.1 ((sp + 9 - 1) % 9 + 1)))) (fun _ _ => False) k9 Y → ∀ (r : Int32) (Z : St), (r = (oM_undo (Y.1 15) (Y.1 16) (Y.1 19)).1 ∧ Z = setRow (setRow Y 15 (oM_undo (Y.1 15) (Y.1 16) (Y.1 19)).2.1) 16 (oM_undo (Y.1 15) (Y.1 16) (Y.1 19)).2.2) → (Z.1 15 0 = k9 ∧ (k9 = 0 → Z.1 27 0 = r)) ∧ LInv Z := fun k9 Y h r Z h2 => by
      obtain ⟨h0, h6⟩ := st k9 Y h
      have y15 : Y.1 15 = X.1 15 := by rw [h6]; rfl
      have y16 : Y.1 16 = X.1 16 := by rw [h6]; rfl
      have y19 : Y.1 19 = X.1 19 := by rw [h6]; rfl
      rw [y15, y16, y19, e] at h2
      obtain ⟨h8, rfl⟩ := h2
      have h8 : r = nI (cn - 1) := h8
      refine ⟨⟨by rw [h0]; rfl, fun _ => by rw [h8, h6]; rfl⟩, ?_⟩
      obtain ⟨g1, g2, -, g4, g5, g6, g7⟩ := hI
      rw [h6]
      have t := hh 0 hc0
      rw [Nat.sub_zero, Nat.sub_zero, show sp + 8 = sp + 9 - 1 by omega] at t
      refine ⟨⟨t.1.cpt, (t.2.cpPlant t.1).cpt t.1⟩, g2, ⟨(sp + 9 - 1) % 9, cn - 1, by omega, by omega, rfl, rfl, rfl, fun k hk => ?_⟩, g4, g5, g6, g7⟩
      have u := hh (k + 1) (by omega)
      rw [show cn - 1 - (k + 1) = cn - 1 - 1 - k by omega, show (sp + 8 - (k + 1)) % 9 + 1 = ((sp + 9 - 1) % 9 + 8 - k) % 9 + 1 by omega] at u
      refine ⟨u.1, ?_⟩
      have e9 : (setRow (setRow (sup (setRow (setRow X 11 (upd (upd (X.1 11) (3) (nI ((sp + 9 - 1) % 9))) (4) (nI (cn - 1)))) 0 (cpPlantR (X.1 0) (X.1 ((sp + 9 - 1) % 9 + 1)))) 27 0 (nI (cn - 1))) 15 (nI (cn - 1), upd (upd (X.1 15) 0 0) 1 (nI (cn - 1)), cpT 128 (X.1 16) (fun j => X.1 19 ((cn - 1) * 128 + j))).2.1) 16 (nI (cn - 1), upd (upd (X.1 15) 0 0) 1 (nI (cn - 1)), cpT 128 (X.1 16) (fun j => X.1 19 ((cn - 1) * 128 + j))).2.2).1 (((sp + 9 - 1) % 9 + 8 - k) % 9 + 1) = X.1 (((sp + 9 - 1) % 9 + 8 - k) % 9 + 1) := by
        rw [sr_ne (by omega), sr_ne (by omega), sp_ne (by omega), sr_ne (by omega), sr_ne (by omega)]
      have t2 := u.2
      rw [← e9] at t2
      exact t2
    exact lC_undo C hX hbl hbA hS hW hj hL hl (by decide) (by decide) (by decide) (by decide) (by omega) (by omega) (cX7_undo_ok l G hst X sp hsp es cn hcn ec hc0) (fun E Y h => h.elim) (fun k9 Y h => cX8_undo_ok l G Y cn hcn (by rw [(st k9 Y h).2]; exact ecr)) (fun k9 Y h r Z h2 => (fin k9 Y h r Z h2).1) (fun k9 Y h r Z h2 H1 locs1 ls1 a1 a2 a3 => W.widen (by omega) (by omega) (K Z H1 locs1 ls1 (fin k9 Y h r Z h2).2 a1 a2 (lv_sub2 a3)))
end LT2
