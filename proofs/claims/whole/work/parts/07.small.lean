/-! What the small methods answer, as functions of a row of places. -/
def setRow (X : St) (r : Nat) (w : Nat → Int32) : St := (fun r' => if r' = r then w else X.1 r', X.2)
theorem rd_out {X : St} {r : Nat} {w : Nat → Int32} : (setRow X r w).1 r = w := if_pos rfl
theorem rd_in {X : St} {r r2 : Nat} {w w2 : Nat → Int32} (h : r ≠ r2) (e : X.1 r = w) : (setRow X r2 w2).1 r = w := (if_neg h).trans e
theorem st_base {X : St} {r i : Nat} {v : Int32} : sup X r i v = setRow X r (upd (X.1 r) i v) := by
  refine Prod.ext (funext fun r' => funext fun i' => ?_) rfl
  show (if r' = r ∧ i' = i then v else X.1 r' i') = (if r' = r then upd (X.1 r) i v else X.1 r') i'
  by_cases h : r' = r
  · subst h
    rw [if_pos rfl]
    by_cases h2 : i' = i
    · rw [if_pos ⟨rfl, h2⟩]; exact (if_pos h2).symm
    · rw [if_neg (fun q => h2 q.2)]; exact (if_neg h2).symm
  · rw [if_neg (fun q => h q.1), if_neg h]
theorem sr_out {X : St} {r : Nat} {w w' : Nat → Int32} : setRow (setRow X r w) r w' = setRow X r w' := by
  refine Prod.ext (funext fun r' => ?_) rfl
  show (if r' = r then w' else if r' = r then w else X.1 r') = if r' = r then w' else X.1 r'
  by_cases h : r' = r
  · rw [if_pos h, if_pos h]
  · rw [if_neg h, if_neg h, if_neg h]
theorem sr_in {X Z : St} {r r2 : Nat} {w2 w' : Nat → Int32} (h : r ≠ r2) (e : setRow X r w' = Z) : setRow (setRow X r2 w2) r w' = setRow Z r2 w2 := by
  subst e
  refine Prod.ext (funext fun r' => ?_) rfl
  show (if r' = r then w' else if r' = r2 then w2 else X.1 r') = if r' = r2 then w2 else if r' = r then w' else X.1 r'
  by_cases h1 : r' = r
  · subst h1
    rw [if_pos rfl, if_neg h, if_pos rfl]
  · rw [if_neg h1, if_neg h1]
theorem sr_self {X : St} {r : Nat} : setRow X r (X.1 r) = X := by
  refine Prod.ext (funext fun r' => ?_) rfl
  show (if r' = r then X.1 r else X.1 r') = X.1 r'
  by_cases h : r' = r
  · subst h; rw [if_pos rfl]
  · rw [if_neg h]
theorem st_out {X : St} {r i : Nat} {v : Int32} {w : Nat → Int32} : sup (setRow X r w) r i v = setRow X r (upd w i v) := by
  rw [st_base, rd_out, sr_out]
theorem st_in {X Z : St} {r r2 i : Nat} {v : Int32} {w2 : Nat → Int32} (h : r ≠ r2) (e : sup X r i v = Z) : sup (setRow X r2 w2) r i v = setRow Z r2 w2 := by
  subst e
  rw [st_base, rd_in h rfl, sr_in h rfl, st_base]
theorem Wd.cast {G : GT} {X Y : St} {H : Heap} (h : X = Y) (hW : Wd G X H) : Wd G Y H := h ▸ hW
def sOut (x n : Int32) : Int32 := if x < 0 then 1 else if x < n then 0 else 1
def matOf (x : Int32) : Int32 := if 99 = x then 0 else if 116 = x then 1 else if 108 = x then 2 else if 111 = x then 3 else -1
def lim (x : Int32) : Int32 := if 20 ≤ x then (if x ≤ 1500 then x else 1500) else 20
def sumW (w : Nat → Int32) (i : Nat) : Int32 := w (i + 0) + w (i + 1) + w (i + 2) + w (i + 3)
def heatW (w : Nat → Int32) (i : Nat) : Int32 := w (i + 0) * 1085 + w (i + 1) * 232 + w (i + 2) * 327 + w (i + 3) * 1200
def aboveW (w : Nat → Int32) (i : Nat) : Int32 := w (i + 0) * 853 + w (i + 1) * 0 + w (i + 2) * 95 + w (i + 3) * 968
def ptW (w : Nat → Int32) (i : Nat) : Int32 := if sumW w i ≤ 0 then 0 else heatW w i / sumW w i
def pdW (w : Nat → Int32) (i : Nat) : Int32 := if sumW w i ≤ 0 then 0 else 232 + aboveW w i / sumW w i
def thW (w : Nat → Int32) (i j : Nat) : Int32 := if sumW w i ≤ 0 then 0 else 1000 * w (i + j) / sumW w i
def gradeW (w : Nat → Int32) (i : Nat) : Int32 := if thW w i 3 ≤ 50 then (if thW w i 0 < 950 then (if thW w i 0 < 800 then (if thW w i 1 < 500 then 120 else if thW w i 2 < 300 then 120 else 115) else if thW w i 1 < 100 then (if thW w i 1 < 500 then 120 else if thW w i 2 < 300 then 120 else 115) else 98) else 99) else 120
def liqW (w : Nat → Int32) (i : Nat) : Int32 := if sumW w i ≤ 0 then 0 else if w (i + 4) < ptW w i then 0 else 1
def addR (w : Nat → Int32) (i i2 j : Nat) : Nat → Int32 := upd w (i + j) (w (i + j) + w (i2 + j))
def addAllR (w : Nat → Int32) (i i2 : Nat) : Nat → Int32 := addR (addR (addR (addR w i i2 0) i i2 1) i i2 2) i i2 3
def clrR (w : Nat → Int32) (i : Nat) : Nat → Int32 := upd (upd (upd (upd w (i + 0) 0) (i + 1) 0) (i + 2) 0) (i + 3) 0
def moveR (w : Nat → Int32) (i i2 j : Nat) (x : Int32) : Nat → Int32 := upd (upd w (i + j) (w (i + j) - x)) (i2 + j) (upd w (i + j) (w (i + j) - x) (i2 + j) + x)
def blendR (w : Nat → Int32) (i : Nat) (L x d : Int32) : Nat → Int32 := if sumW w i + L + x ≤ 0 then w else upd w (i + 4) ((w (i + 4) * (sumW w i + L) + d * x) / (sumW w i + L + x))
def stepB (w : Nat → Int32) (i b k : Nat) : Nat := if w (i + k) ≤ w (i + b) then b else k
def best3 (w : Nat → Int32) (i : Nat) : Nat := stepB w i (stepB w i 0 1) 2
def best4 (w : Nat → Int32) (i : Nat) : Nat := stepB w i (best3 w i) 3
theorem lt_stepB {w : Nat → Int32} {i b k : Nat} (hb : b < 4) (hk : k < 4) : stepB w i b k < 4 := by
  unfold stepB
  split <;> assumption
theorem lt_best3 (w : Nat → Int32) (i : Nat) : best3 w i < 4 := lt_stepB (lt_stepB (by decide) (by decide)) (by decide)
theorem lt_best4 (w : Nat → Int32) (i : Nat) : best4 w i < 4 := lt_stepB (lt_best3 w i) (by decide)
def cpyR (w : Nat → Int32) (i : Nat) (v : Nat → Int32) (i2 : Nat) : Nat → Int32 := upd (upd (upd (upd w (i + 0) (v (i2 + 0))) (i + 1) (v (i2 + 1))) (i + 2) (v (i2 + 2))) (i + 3) (v (i2 + 3))
def cnt (x : Int32) : Nat := x.toInt.toNat
theorem cnt_0 {x : Int32} (h : cnt x = 0) : x ≤ 0 := by
  rw [Int32.le_iff_toInt_le]
  unfold cnt at h
  show x.toInt ≤ 0
  omega
theorem cnt_s {x : Int32} {q : Nat} (h : cnt x = q + 1) : ¬ x ≤ 0 := by
  rw [Int32.le_iff_toInt_le]
  unfold cnt at h
  show ¬ x.toInt ≤ 0
  omega
theorem cnt_nI {j : Nat} (h : j < 2 ^ 31) : cnt (nI j) = j := by
  unfold cnt
  rw [nI_toInt h]
  rfl
theorem cnt_p {x : Int32} {q : Nat} (h : cnt x = q + 1) : cnt (x + (-1)) = q := by
  have h0 : ¬ x < 0 := fun z => cnt_s h (Int32.le_of_lt z)
  obtain ⟨j, hj, rfl⟩ := nI_of h0
  rw [cnt_nI hj] at h
  subst h
  rw [pk_m1, cnt_nI (by omega)]
def mvLoop (i i2 : Nat) : Nat → (Nat → Int32) → (Nat → Int32)
  | 0, z => z
  | q + 1, z => mvLoop i i2 q (moveR z i i2 (best4 z i) 1)
def mvStep (i i2 : Nat) (x a : Int32) (z : (Nat → Int32) × Int32) (j : Nat) : (Nat → Int32) × Int32 := (moveR z.1 i i2 j (z.1 (i + j) * x / a), z.2 - z.1 (i + j) * x / a)
def movePartR (w : Nat → Int32) (i i2 : Nat) (x : Int32) : Nat → Int32 := if 0 < sumW w i then mvLoop i i2 (cnt (mvStep i i2 x (sumW w i) (mvStep i i2 x (sumW w i) (mvStep i i2 x (sumW w i) (mvStep i i2 x (sumW w i) (w, x) 0) 1) 2) 3).2) (mvStep i i2 x (sumW w i) (mvStep i i2 x (sumW w i) (mvStep i i2 x (sumW w i) (mvStep i i2 x (sumW w i) (w, x) 0) 1) 2) 3).1 else w
theorem g_copy {p : Program} {l : Launch} {e : Env} {R : Room} {s : State} {m : MethodId} {args : Array Value} {below : List Frame} {meth : Method} {c : Code} {H : Heap} {locs : List Loc} {cells slots : Nat} {Q : State → Prop}
    {cc : ByteArray} {nL pc : Nat} {ls : Array Slot} {rest : List Value} {G : GT} {X : St} {w0 : Cond} {own : String} {k a r i k2 a2 r2 i2 index : Nat} (C : Cx p m c cc nL s args (w0 :: lw_all) own G) (hW : Wd G X H) (hS : va_S (Ab G) s.heap H locs) (hls : ls.size = nL) (hm : Mix G k a r i) (hm2 : Mix G k2 a2 r2 i2)
    (hlink : Cond.methodLink own index arraycopyName ∈ w0 :: lw_all) (hfr : 1 ≤ R.frames) (hlo : (rest.map fun v => v.category).sum + (nativeFrameWords "java/lang/System" "arraycopy" 5 + 11) ≤ R.locals) (hdg : decode cc pc = .ok (.invokestatic index, 3))
    (kk : ∀ (H1 : Heap) (locs1 : List Loc), Wd G (setRow X r (cpyR (X.1 r) i (X.1 r2) i2)) H1 → va_S (Ab G) s.heap H1 locs1 → W p l e R s m args below meth c H1 locs1 cells slots Q (F0 m (pc + 3) ls rest)) : W p l e R s m args below meth c H locs cells slots Q (F0 m pc ls (.int 4 :: .int 0 :: .ref (ad G a) :: .int 0 :: .ref (ad G a2) :: rest)) := by
  have hY : setRow X r (cpyR (X.1 r) i (X.1 r2) i2) = sup (sup (sup (sup X r (i + 0) (X.1 r2 (i2 + 0))) r (i + 1) (X.1 r2 (i2 + 1))) r (i + 2) (X.1 r2 (i2 + 2))) r (i + 3) (X.1 r2 (i2 + 3)) := by
    unfold cpyR
    rw [st_base (X := X), st_out, st_out, st_out]
  refine va_copyi (D := gD G) (f := tr 4 fun j => X.1 r2 (i2 + j)) (g := tr 4 fun j => X.1 r (i + j)) (ty := .int) C.1.1 C.1.2.1 (C.1.2.2.1.trans hls.symm) C.1.2.2.2.1 (C.1.2.2.2.2 _ hlink) (C.1.2.2.2.2 _ (mc qwa_native)) (C.1.2.2.2.2 _ (mc qwa_static)) (C.1.2.2.2.2 _ (mc qwa_init)) C.2.1 hW.1 hW.2 hS a2 a 0 0 (wl_at hm2.2.1.1 hm2.2.1.2 (hm2.2.2.2.1 X)) (wl_at hm.2.1.1 hm.2.1.2 (hm.2.2.2.1 X)) rfl rfl rfl (by decide) (by decide) (by decide) (by decide) (by decide) (fun _ _ => rfl) hfr hlo hdg (fun H1 locs1 h1 h2 h3 => ?_)
  have hs : (wl G X).set a (ad G a, .inl (cy G 0, 4, .inl (va_cpy (tr 4 fun j => X.1 r2 (i2 + j)) (tr 4 fun j => X.1 r (i + j)) (0 : Int32).toNatClampNeg (0 : Int32).toNatClampNeg (4 : Int32).toNatClampNeg))) = wl G (setRow X r (cpyR (X.1 r) i (X.1 r2) i2)) := by
    refine wl_set hm.2.1.1 hm.2.1.2 rfl ?_ (fun j9 h8 h9 => ?_)
    · rw [hm.2.2.2.1]
      refine congrArg (fun f => (Sum.inl (cy G 0, 4, Sum.inl f) : va_E)) (funext fun j => ?_)
      rw [rd_out, show (0 : Int32).toNatClampNeg = 0 from rfl, show (4 : Int32).toNatClampNeg = 4 from rfl]
      by_cases hj : j < 4
      · rw [tr_at hj, pk_cpy_in (by omega) (by omega), tr_at (by omega)]
        rcases lt4 hj with rfl | rfl | rfl | rfl <;> simp [cpyR, upd]
      · rw [pk_cpy_out (by omega)]
        exact (if_neg hj).trans (if_neg hj).symm
    · rw [hY, cell_ne h8 (by rw [hm.2.2.2.2 3 (by decide)]; exact Ne.symm h9), cell_ne h8 (by rw [hm.2.2.2.2 2 (by decide)]; exact Ne.symm h9), cell_ne h8 (by rw [hm.2.2.2.2 1 (by decide)]; exact Ne.symm h9), cell_ne h8 (by rw [hm.2.2.2.2 0 (by decide)]; exact Ne.symm h9)]
  rw [hs] at h1 h2
  exact kk H1 locs1 ⟨h1, h2⟩ h3
def chillR (w : Nat → Int32) (i : Nat) : Nat → Int32 := if sumW w i = 0 then upd w (i + 4) 20 else w
set_option maxHeartbeats 4000000 in
set_option maxRecDepth 100000 in
theorem cX7_outside_ok (l : Launch) (G : GT) (X : St) (x n : Int32) : MetI l G yX7_outside (wsG yX7_outside cX7_outside 2 (some .boolean)) (rmz 0 0) [.int x, .int n] X (fun res Y => res = sOut x n ∧ Y = X) := by
  refine g_met (cc := cX7_outside) (maxL := 2) (ret := (some .boolean)) (by decide) rfl (Nat.le_of_ble_eq_true rfl) ?_
  intro p e s m below meth c ls C hr hlk hnm hW hl
  have hx := C.1.1
  have hb := C.1.2.1
  have hS : va_S (Ab G) s.heap s.heap [] := va_S.rf
  have hl : lv_has ls 2 [(0, .int x), (1, .int n)] := hl
  refine lv_iload_n hx hb dX7_outside_0 rfl (lv_at hl 0 rfl) ?_
  refine lv_if_lt (tgt := 9) hx hb dX7_outside_1 (by decide) (fun b_1 => ?_) (fun b_1 => ?_)
  · refine lv_iconst (v := 1) hx hb dX7_outside_9 (by decide) ?_
    refine lv_goto (tgt := 14) hx hb dX7_outside_10 (by decide) ?_
    exact g_zret C hr hlk hW hS dX7_outside_14 rfl (by exact ⟨by simp only [sOut, b_1, if_true, if_false], rfl⟩)
  · refine lv_iload_n hx hb dX7_outside_4 rfl (lv_at hl 0 rfl) ?_
    refine lv_iload_n hx hb dX7_outside_5 rfl (lv_at hl 1 rfl) ?_
    refine lv_icmp_lt (tgt := 13) hx hb dX7_outside_6 (by decide) (fun b_2 => ?_) (fun b_2 => ?_)
    · refine lv_iconst (v := 0) hx hb dX7_outside_13 (by decide) ?_
      exact g_zret C hr hlk hW hS dX7_outside_14 rfl (by exact ⟨by simp only [sOut, b_1, b_2, if_true, if_false], rfl⟩)
    · refine lv_iconst (v := 1) hx hb dX7_outside_9 (by decide) ?_
      refine lv_goto (tgt := 14) hx hb dX7_outside_10 (by decide) ?_
      exact g_zret C hr hlk hW hS dX7_outside_14 rfl (by exact ⟨by simp only [sOut, b_1, b_2, if_true, if_false], rfl⟩)

set_option maxHeartbeats 4000000 in
set_option maxRecDepth 100000 in
theorem cX7_materialOf_ok (l : Launch) (G : GT) (X : St) (x : Int32) : MetI l G yX7_materialOf (wsG yX7_materialOf cX7_materialOf 2 (some .int)) (rmz 0 0) [.int x] X (fun res Y => res = matOf x ∧ Y = X) := by
  refine g_met (cc := cX7_materialOf) (maxL := 2) (ret := (some .int)) (by decide) rfl (Nat.le_of_ble_eq_true rfl) ?_
  intro p e s m below meth c ls C hr hlk hnm hW hl
  have hx := C.1.1
  have hb := C.1.2.1
  have hS : va_S (Ab G) s.heap s.heap [] := va_S.rf
  have hl : lv_has ls 2 [(0, .int x)] := hl
  refine lv_iconst (v := 0) hx hb dX7_materialOf_0 (by decide) ?_
  refine lv_istore_n (lv' := [(1, .int 0), (0, .int x)]) hx hb dX7_materialOf_1 rfl hl (by decide) rfl (fun ls_1 hl_2 => ?_)
  refine lv_iload_n hx hb dX7_materialOf_2 rfl (lv_at hl_2 0 rfl) ?_
  refine lv_iconst (v := 4) hx hb dX7_materialOf_3 (by decide) ?_
  refine lv_icmp_ge (tgt := 24) hx hb dX7_materialOf_4 (by decide) (fun h9 => absurd h9 (by decide)) (fun _ => ?_)
  refine g_ltS C hS (mc qw_831) dX7_materialOf_7 ?_
  refine lv_iload_n hx hb dX7_materialOf_10 rfl (lv_at hl_2 0 rfl) ?_
  refine g_lt (v := 99) C hS (vlit (by decide)) rfl dX7_materialOf_11 ?_
  refine lv_iload_n hx hb dX7_materialOf_12 rfl (lv_at hl_2 1 rfl) ?_
  refine lv_icmp_ne (tgt := 18) hx hb dX7_materialOf_13 (by decide) (fun b_3 => ?_) (fun b_3 => ?_)
  · refine lv_iinc (v := 1) (lv' := [(1, .int 1), (0, .int x)]) hx hb dX7_materialOf_18 hl_2 (k := 0) rfl (by decide) (by decide) rfl (fun ls_4 hl_5 => ?_)
    refine lv_goto (tgt := 2) hx hb dX7_materialOf_21 (by decide) ?_
    refine lv_iload_n hx hb dX7_materialOf_2 rfl (lv_at hl_5 0 rfl) ?_
    refine lv_iconst (v := 4) hx hb dX7_materialOf_3 (by decide) ?_
    refine lv_icmp_ge (tgt := 24) hx hb dX7_materialOf_4 (by decide) (fun h9 => absurd h9 (by decide)) (fun _ => ?_)
    refine g_ltS C hS (mc qw_831) dX7_materialOf_7 ?_
    refine lv_iload_n hx hb dX7_materialOf_10 rfl (lv_at hl_5 0 rfl) ?_
    refine g_lt (v := 116) C hS (vlit (by decide)) rfl dX7_materialOf_11 ?_
    refine lv_iload_n hx hb dX7_materialOf_12 rfl (lv_at hl_5 1 rfl) ?_
    refine lv_icmp_ne (tgt := 18) hx hb dX7_materialOf_13 (by decide) (fun b_6 => ?_) (fun b_6 => ?_)
    · refine lv_iinc (v := 2) (lv' := [(1, .int 2), (0, .int x)]) hx hb dX7_materialOf_18 hl_5 (k := 0) rfl (by decide) (by decide) rfl (fun ls_7 hl_8 => ?_)
      refine lv_goto (tgt := 2) hx hb dX7_materialOf_21 (by decide) ?_
      refine lv_iload_n hx hb dX7_materialOf_2 rfl (lv_at hl_8 0 rfl) ?_
      refine lv_iconst (v := 4) hx hb dX7_materialOf_3 (by decide) ?_
      refine lv_icmp_ge (tgt := 24) hx hb dX7_materialOf_4 (by decide) (fun h9 => absurd h9 (by decide)) (fun _ => ?_)
      refine g_ltS C hS (mc qw_831) dX7_materialOf_7 ?_
      refine lv_iload_n hx hb dX7_materialOf_10 rfl (lv_at hl_8 0 rfl) ?_
      refine g_lt (v := 108) C hS (vlit (by decide)) rfl dX7_materialOf_11 ?_
      refine lv_iload_n hx hb dX7_materialOf_12 rfl (lv_at hl_8 1 rfl) ?_
      refine lv_icmp_ne (tgt := 18) hx hb dX7_materialOf_13 (by decide) (fun b_9 => ?_) (fun b_9 => ?_)
      · refine lv_iinc (v := 3) (lv' := [(1, .int 3), (0, .int x)]) hx hb dX7_materialOf_18 hl_8 (k := 0) rfl (by decide) (by decide) rfl (fun ls_10 hl_11 => ?_)
        refine lv_goto (tgt := 2) hx hb dX7_materialOf_21 (by decide) ?_
        refine lv_iload_n hx hb dX7_materialOf_2 rfl (lv_at hl_11 0 rfl) ?_
        refine lv_iconst (v := 4) hx hb dX7_materialOf_3 (by decide) ?_
        refine lv_icmp_ge (tgt := 24) hx hb dX7_materialOf_4 (by decide) (fun h9 => absurd h9 (by decide)) (fun _ => ?_)
        refine g_ltS C hS (mc qw_831) dX7_materialOf_7 ?_
        refine lv_iload_n hx hb dX7_materialOf_10 rfl (lv_at hl_11 0 rfl) ?_
        refine g_lt (v := 111) C hS (vlit (by decide)) rfl dX7_materialOf_11 ?_
        refine lv_iload_n hx hb dX7_materialOf_12 rfl (lv_at hl_11 1 rfl) ?_
        refine lv_icmp_ne (tgt := 18) hx hb dX7_materialOf_13 (by decide) (fun b_12 => ?_) (fun b_12 => ?_)
        · refine lv_iinc (v := 4) (lv' := [(1, .int 4), (0, .int x)]) hx hb dX7_materialOf_18 hl_11 (k := 0) rfl (by decide) (by decide) rfl (fun ls_13 hl_14 => ?_)
          refine lv_goto (tgt := 2) hx hb dX7_materialOf_21 (by decide) ?_
          refine lv_iload_n hx hb dX7_materialOf_2 rfl (lv_at hl_14 0 rfl) ?_
          refine lv_iconst (v := 4) hx hb dX7_materialOf_3 (by decide) ?_
          refine lv_icmp_ge (tgt := 24) hx hb dX7_materialOf_4 (by decide) (fun _ => ?_) (fun h9 => absurd h9 (by decide))
          refine lv_iconst (v := (-1)) hx hb dX7_materialOf_24 (by decide) ?_
          exact g_iret C hr hlk hW hS dX7_materialOf_25 (by exact ⟨by simp only [matOf, b_3, b_6, b_9, b_12, if_true, if_false], rfl⟩)
        · refine lv_iload_n hx hb dX7_materialOf_16 rfl (lv_at hl_11 0 rfl) ?_
          exact g_iret C hr hlk hW hS dX7_materialOf_17 (by exact ⟨by simp only [matOf, b_3, b_6, b_9, b_12, if_true, if_false], rfl⟩)
      · refine lv_iload_n hx hb dX7_materialOf_16 rfl (lv_at hl_8 0 rfl) ?_
        exact g_iret C hr hlk hW hS dX7_materialOf_17 (by exact ⟨by simp only [matOf, b_3, b_6, b_9, if_true, if_false], rfl⟩)
    · refine lv_iload_n hx hb dX7_materialOf_16 rfl (lv_at hl_5 0 rfl) ?_
      exact g_iret C hr hlk hW hS dX7_materialOf_17 (by exact ⟨by simp only [matOf, b_3, b_6, if_true, if_false], rfl⟩)
  · refine lv_iload_n hx hb dX7_materialOf_16 rfl (lv_at hl_2 0 rfl) ?_
    exact g_iret C hr hlk hW hS dX7_materialOf_17 (by exact ⟨by simp only [matOf, b_3, if_true, if_false], rfl⟩)

set_option maxHeartbeats 4000000 in
set_option maxRecDepth 100000 in
theorem cX7_withinLimits_ok (l : Launch) (G : GT) (X : St) (x : Int32) : MetI l G yX7_withinLimits (wsG yX7_withinLimits cX7_withinLimits 1 (some .int)) (rmz 0 0) [.int x] X (fun res Y => res = lim x ∧ Y = X) := by
  refine g_met (cc := cX7_withinLimits) (maxL := 1) (ret := (some .int)) (by decide) rfl (Nat.le_of_ble_eq_true rfl) ?_
  intro p e s m below meth c ls C hr hlk hnm hW hl
  have hx := C.1.1
  have hb := C.1.2.1
  have hS : va_S (Ab G) s.heap s.heap [] := va_S.rf
  have hl : lv_has ls 1 [(0, .int x)] := hl
  refine lv_iload_n hx hb dX7_withinLimits_0 rfl (lv_at hl 0 rfl) ?_
  refine lv_bipush (v := 20) hx hb dX7_withinLimits_1 (by decide) ?_
  refine lv_icmp_ge (tgt := 9) hx hb dX7_withinLimits_3 (by decide) (fun b_1 => ?_) (fun b_1 => ?_)
  · refine lv_iload_n hx hb dX7_withinLimits_9 rfl (lv_at hl 0 rfl) ?_
    refine lv_sipush (v := 1500) hx hb dX7_withinLimits_10 (by decide) ?_
    refine lv_icmp_le (tgt := 22) hx hb dX7_withinLimits_13 (by decide) (fun b_2 => ?_) (fun b_2 => ?_)
    · refine lv_iload_n hx hb dX7_withinLimits_22 rfl (lv_at hl 0 rfl) ?_
      exact g_iret C hr hlk hW hS dX7_withinLimits_23 (by exact ⟨by simp only [lim, b_1, b_2, if_true, if_false], rfl⟩)
    · refine lv_sipush (v := 1500) hx hb dX7_withinLimits_16 (by decide) ?_
      refine lv_goto (tgt := 23) hx hb dX7_withinLimits_19 (by decide) ?_
      exact g_iret C hr hlk hW hS dX7_withinLimits_23 (by exact ⟨by simp only [lim, b_1, b_2, if_true, if_false], rfl⟩)
  · refine lv_bipush (v := 20) hx hb dX7_withinLimits_6 (by decide) ?_
    exact g_iret C hr hlk hW hS dX7_withinLimits_8 (by exact ⟨by simp only [lim, b_1, if_true, if_false], rfl⟩)

set_option maxHeartbeats 4000000 in
set_option maxRecDepth 100000 in
theorem cX3_sum_ok (l : Launch) (G : GT) (X : St) (k a r i : Nat) (hm : Mix G k a r i) : MetI l G yX3_sum (wsG yX3_sum cX3_sum 3 (some .int)) (rmz 0 0) [.ref (ad G k)] X (fun res Y => res = sumW (X.1 r) i ∧ Y = X) := by
  refine g_met (cc := cX3_sum) (maxL := 3) (ret := (some .int)) (by decide) rfl (Nat.le_of_ble_eq_true rfl) ?_
  intro p e s m below meth c ls C hr hlk hnm hW hl
  have hx := C.1.1
  have hb := C.1.2.1
  have hS : va_S (Ab G) s.heap s.heap [] := va_S.rf
  have hl : lv_has ls 3 [(0, .ref (ad G k))] := hl
  refine lv_iconst (v := 0) hx hb dX3_sum_0 (by decide) ?_
  refine lv_istore_n (lv' := [(1, .int 0), (0, .ref (ad G k))]) hx hb dX3_sum_1 rfl hl (by decide) rfl (fun ls_1 hl_2 => ?_)
  refine lv_iconst (v := 0) hx hb dX3_sum_2 (by decide) ?_
  refine lv_istore_n (lv' := [(2, .int 0), (1, .int 0), (0, .ref (ad G k))]) hx hb dX3_sum_3 rfl hl_2 (by decide) rfl (fun ls_3 hl_4 => ?_)
  refine lv_iload_n hx hb dX3_sum_4 rfl (lv_at hl_4 0 rfl) ?_
  refine lv_iconst (v := 4) hx hb dX3_sum_5 (by decide) ?_
  refine lv_icmp_ge (tgt := 24) hx hb dX3_sum_6 (by decide) (fun h9 => absurd h9 (by decide)) (fun _ => ?_)
  refine lv_iload_n hx hb dX3_sum_9 rfl (lv_at hl_4 1 rfl) ?_
  refine lv_aload_n hx hb dX3_sum_10 rfl (lv_at hl_4 2 rfl) ?_
  refine g_masses C hW hm (hwc hwX3) (mc qw_127) dX3_sum_11 ?_
  refine lv_iload_n hx hb dX3_sum_14 rfl (lv_at hl_4 0 rfl) ?_
  refine g_mld C hW hm 0 (by decide) (vlit (by decide)) dX3_sum_15 ?_
  refine lv_iadd hx hb dX3_sum_16 ?_
  refine g_top (y := (X.1 r (i + 0))) (Int32.zero_add _) ?_
  refine lv_topi (fun v_5 ev_5 => ?_)
  refine lv_istore_n (lv' := [(1, .int v_5), (2, .int 0), (0, .ref (ad G k))]) hx hb dX3_sum_17 rfl hl_4 (by decide) rfl (fun ls_6 hl_7 => ?_)
  refine lv_iinc (v := 1) (lv' := [(2, .int 1), (1, .int v_5), (0, .ref (ad G k))]) hx hb dX3_sum_18 hl_7 (k := 1) rfl (by decide) (by decide) rfl (fun ls_8 hl_9 => ?_)
  refine lv_goto (tgt := 4) hx hb dX3_sum_21 (by decide) ?_
  refine lv_iload_n hx hb dX3_sum_4 rfl (lv_at hl_9 0 rfl) ?_
  refine lv_iconst (v := 4) hx hb dX3_sum_5 (by decide) ?_
  refine lv_icmp_ge (tgt := 24) hx hb dX3_sum_6 (by decide) (fun h9 => absurd h9 (by decide)) (fun _ => ?_)
  refine lv_iload_n hx hb dX3_sum_9 rfl (lv_at hl_9 1 rfl) ?_
  refine lv_aload_n hx hb dX3_sum_10 rfl (lv_at hl_9 2 rfl) ?_
  refine g_masses C hW hm (hwc hwX3) (mc qw_127) dX3_sum_11 ?_
  refine lv_iload_n hx hb dX3_sum_14 rfl (lv_at hl_9 0 rfl) ?_
  refine g_mld C hW hm 1 (by decide) (vlit (by decide)) dX3_sum_15 ?_
  refine lv_iadd hx hb dX3_sum_16 ?_
  refine lv_topi (fun v_10 ev_10 => ?_)
  refine lv_istore_n (lv' := [(1, .int v_10), (2, .int 1), (0, .ref (ad G k))]) hx hb dX3_sum_17 rfl hl_9 (by decide) rfl (fun ls_11 hl_12 => ?_)
  refine lv_iinc (v := 2) (lv' := [(2, .int 2), (1, .int v_10), (0, .ref (ad G k))]) hx hb dX3_sum_18 hl_12 (k := 1) rfl (by decide) (by decide) rfl (fun ls_13 hl_14 => ?_)
  refine lv_goto (tgt := 4) hx hb dX3_sum_21 (by decide) ?_
  refine lv_iload_n hx hb dX3_sum_4 rfl (lv_at hl_14 0 rfl) ?_
  refine lv_iconst (v := 4) hx hb dX3_sum_5 (by decide) ?_
  refine lv_icmp_ge (tgt := 24) hx hb dX3_sum_6 (by decide) (fun h9 => absurd h9 (by decide)) (fun _ => ?_)
  refine lv_iload_n hx hb dX3_sum_9 rfl (lv_at hl_14 1 rfl) ?_
  refine lv_aload_n hx hb dX3_sum_10 rfl (lv_at hl_14 2 rfl) ?_
  refine g_masses C hW hm (hwc hwX3) (mc qw_127) dX3_sum_11 ?_
  refine lv_iload_n hx hb dX3_sum_14 rfl (lv_at hl_14 0 rfl) ?_
  refine g_mld C hW hm 2 (by decide) (vlit (by decide)) dX3_sum_15 ?_
  refine lv_iadd hx hb dX3_sum_16 ?_
  refine lv_topi (fun v_15 ev_15 => ?_)
  refine lv_istore_n (lv' := [(1, .int v_15), (2, .int 2), (0, .ref (ad G k))]) hx hb dX3_sum_17 rfl hl_14 (by decide) rfl (fun ls_16 hl_17 => ?_)
  refine lv_iinc (v := 3) (lv' := [(2, .int 3), (1, .int v_15), (0, .ref (ad G k))]) hx hb dX3_sum_18 hl_17 (k := 1) rfl (by decide) (by decide) rfl (fun ls_18 hl_19 => ?_)
  refine lv_goto (tgt := 4) hx hb dX3_sum_21 (by decide) ?_
  refine lv_iload_n hx hb dX3_sum_4 rfl (lv_at hl_19 0 rfl) ?_
  refine lv_iconst (v := 4) hx hb dX3_sum_5 (by decide) ?_
  refine lv_icmp_ge (tgt := 24) hx hb dX3_sum_6 (by decide) (fun h9 => absurd h9 (by decide)) (fun _ => ?_)
  refine lv_iload_n hx hb dX3_sum_9 rfl (lv_at hl_19 1 rfl) ?_
  refine lv_aload_n hx hb dX3_sum_10 rfl (lv_at hl_19 2 rfl) ?_
  refine g_masses C hW hm (hwc hwX3) (mc qw_127) dX3_sum_11 ?_
  refine lv_iload_n hx hb dX3_sum_14 rfl (lv_at hl_19 0 rfl) ?_
  refine g_mld C hW hm 3 (by decide) (vlit (by decide)) dX3_sum_15 ?_
  refine lv_iadd hx hb dX3_sum_16 ?_
  refine lv_topi (fun v_20 ev_20 => ?_)
  refine lv_istore_n (lv' := [(1, .int v_20), (2, .int 3), (0, .ref (ad G k))]) hx hb dX3_sum_17 rfl hl_19 (by decide) rfl (fun ls_21 hl_22 => ?_)
  refine lv_iinc (v := 4) (lv' := [(2, .int 4), (1, .int v_20), (0, .ref (ad G k))]) hx hb dX3_sum_18 hl_22 (k := 1) rfl (by decide) (by decide) rfl (fun ls_23 hl_24 => ?_)
  refine lv_goto (tgt := 4) hx hb dX3_sum_21 (by decide) ?_
  refine lv_iload_n hx hb dX3_sum_4 rfl (lv_at hl_24 0 rfl) ?_
  refine lv_iconst (v := 4) hx hb dX3_sum_5 (by decide) ?_
  refine lv_icmp_ge (tgt := 24) hx hb dX3_sum_6 (by decide) (fun _ => ?_) (fun h9 => absurd h9 (by decide))
  refine lv_iload_n hx hb dX3_sum_24 rfl (lv_at hl_24 1 rfl) ?_
  exact g_iret C hr hlk hW hS dX3_sum_25 (by subst ev_20; subst ev_15; subst ev_10; subst ev_5; exact ⟨rfl, rfl⟩)

set_option maxHeartbeats 4000000 in
set_option maxRecDepth 100000 in
theorem cX3_pointBySums_ok (l : Launch) (G : GT) (X : St) (k a r i : Nat) (hm : Mix G k a r i) : MetI l G yX3_pointBySums (wsG yX3_pointBySums cX3_pointBySums 4 (some .int)) (rmz 0 0) [.ref (ad G k)] X (fun res Y => res = ptW (X.1 r) i ∧ Y = X) := by
  refine g_met (cc := cX3_pointBySums) (maxL := 4) (ret := (some .int)) (by decide) rfl (Nat.le_of_ble_eq_true rfl) ?_
  intro p e s m below meth c ls C hr hlk hnm hW hl
  have hx := C.1.1
  have hb := C.1.2.1
  have hS : va_S (Ab G) s.heap s.heap [] := va_S.rf
  have hl : lv_has ls 4 [(0, .ref (ad G k))] := hl
  refine lv_iconst (v := 0) hx hb dX3_pointBySums_0 (by decide) ?_
  refine lv_istore_n (lv' := [(1, .int 0), (0, .ref (ad G k))]) hx hb dX3_pointBySums_1 rfl hl (by decide) rfl (fun ls_1 hl_2 => ?_)
  refine lv_iconst (v := 0) hx hb dX3_pointBySums_2 (by decide) ?_
  refine lv_istore_n (lv' := [(2, .int 0), (1, .int 0), (0, .ref (ad G k))]) hx hb dX3_pointBySums_3 rfl hl_2 (by decide) rfl (fun ls_3 hl_4 => ?_)
  refine lv_iconst (v := 0) hx hb dX3_pointBySums_4 (by decide) ?_
  refine lv_istore_n (lv' := [(3, .int 0), (2, .int 0), (1, .int 0), (0, .ref (ad G k))]) hx hb dX3_pointBySums_5 rfl hl_4 (by decide) rfl (fun ls_5 hl_6 => ?_)
  refine lv_iload_n hx hb dX3_pointBySums_6 rfl (lv_at hl_6 0 rfl) ?_
  refine lv_iconst (v := 4) hx hb dX3_pointBySums_7 (by decide) ?_
  refine lv_icmp_ge (tgt := 41) hx hb dX3_pointBySums_8 (by decide) (fun h9 => absurd h9 (by decide)) (fun _ => ?_)
  refine lv_iload_n hx hb dX3_pointBySums_11 rfl (lv_at hl_6 2 rfl) ?_
  refine lv_aload_n hx hb dX3_pointBySums_12 rfl (lv_at hl_6 3 rfl) ?_
  refine g_masses C hW hm (hwc hwX3) (mc qw_127) dX3_pointBySums_13 ?_
  refine lv_iload_n hx hb dX3_pointBySums_16 rfl (lv_at hl_6 0 rfl) ?_
  refine g_mld C hW hm 0 (by decide) (vlit (by decide)) dX3_pointBySums_17 ?_
  refine g_mpS C hS nw_19 dX3_pointBySums_18 ?_
  refine lv_iload_n hx hb dX3_pointBySums_21 rfl (lv_at hl_6 0 rfl) ?_
  refine g_mp (v := 1085) C hS (vlit (by decide)) rfl dX3_pointBySums_22 ?_
  refine lv_imul hx hb dX3_pointBySums_23 ?_
  refine lv_iadd hx hb dX3_pointBySums_24 ?_
  refine g_top (y := ((X.1 r (i + 0)) * 1085)) (Int32.zero_add _) ?_
  refine lv_topi (fun v_7 ev_7 => ?_)
  refine lv_istore_n (lv' := [(1, .int v_7), (3, .int 0), (2, .int 0), (0, .ref (ad G k))]) hx hb dX3_pointBySums_25 rfl hl_6 (by decide) rfl (fun ls_8 hl_9 => ?_)
  refine lv_iload_n hx hb dX3_pointBySums_26 rfl (lv_at hl_9 2 rfl) ?_
  refine lv_aload_n hx hb dX3_pointBySums_27 rfl (lv_at hl_9 3 rfl) ?_
  refine g_masses C hW hm (hwc hwX3) (mc qw_127) dX3_pointBySums_28 ?_
  refine lv_iload_n hx hb dX3_pointBySums_31 rfl (lv_at hl_9 1 rfl) ?_
  refine g_mld C hW hm 0 (by decide) (vlit (by decide)) dX3_pointBySums_32 ?_
  refine lv_iadd hx hb dX3_pointBySums_33 ?_
  refine g_top (y := (X.1 r (i + 0))) (Int32.zero_add _) ?_
  refine lv_topi (fun v_10 ev_10 => ?_)
  refine lv_istore_n (lv' := [(2, .int v_10), (1, .int v_7), (3, .int 0), (0, .ref (ad G k))]) hx hb dX3_pointBySums_34 rfl hl_9 (by decide) rfl (fun ls_11 hl_12 => ?_)
  refine lv_iinc (v := 1) (lv' := [(3, .int 1), (2, .int v_10), (1, .int v_7), (0, .ref (ad G k))]) hx hb dX3_pointBySums_35 hl_12 (k := 2) rfl (by decide) (by decide) rfl (fun ls_13 hl_14 => ?_)
  refine lv_goto (tgt := 6) hx hb dX3_pointBySums_38 (by decide) ?_
  refine lv_iload_n hx hb dX3_pointBySums_6 rfl (lv_at hl_14 0 rfl) ?_
  refine lv_iconst (v := 4) hx hb dX3_pointBySums_7 (by decide) ?_
  refine lv_icmp_ge (tgt := 41) hx hb dX3_pointBySums_8 (by decide) (fun h9 => absurd h9 (by decide)) (fun _ => ?_)
  refine lv_iload_n hx hb dX3_pointBySums_11 rfl (lv_at hl_14 2 rfl) ?_
  refine lv_aload_n hx hb dX3_pointBySums_12 rfl (lv_at hl_14 3 rfl) ?_
  refine g_masses C hW hm (hwc hwX3) (mc qw_127) dX3_pointBySums_13 ?_
  refine lv_iload_n hx hb dX3_pointBySums_16 rfl (lv_at hl_14 0 rfl) ?_
  refine g_mld C hW hm 1 (by decide) (vlit (by decide)) dX3_pointBySums_17 ?_
  refine g_mpS C hS nw_19 dX3_pointBySums_18 ?_
  refine lv_iload_n hx hb dX3_pointBySums_21 rfl (lv_at hl_14 0 rfl) ?_
  refine g_mp (v := 232) C hS (vlit (by decide)) rfl dX3_pointBySums_22 ?_
  refine lv_imul hx hb dX3_pointBySums_23 ?_
  refine lv_iadd hx hb dX3_pointBySums_24 ?_
  refine lv_topi (fun v_15 ev_15 => ?_)
  refine lv_istore_n (lv' := [(1, .int v_15), (3, .int 1), (2, .int v_10), (0, .ref (ad G k))]) hx hb dX3_pointBySums_25 rfl hl_14 (by decide) rfl (fun ls_16 hl_17 => ?_)
  refine lv_iload_n hx hb dX3_pointBySums_26 rfl (lv_at hl_17 2 rfl) ?_
  refine lv_aload_n hx hb dX3_pointBySums_27 rfl (lv_at hl_17 3 rfl) ?_
  refine g_masses C hW hm (hwc hwX3) (mc qw_127) dX3_pointBySums_28 ?_
  refine lv_iload_n hx hb dX3_pointBySums_31 rfl (lv_at hl_17 1 rfl) ?_
  refine g_mld C hW hm 1 (by decide) (vlit (by decide)) dX3_pointBySums_32 ?_
  refine lv_iadd hx hb dX3_pointBySums_33 ?_
  refine lv_topi (fun v_18 ev_18 => ?_)
  refine lv_istore_n (lv' := [(2, .int v_18), (1, .int v_15), (3, .int 1), (0, .ref (ad G k))]) hx hb dX3_pointBySums_34 rfl hl_17 (by decide) rfl (fun ls_19 hl_20 => ?_)
  refine lv_iinc (v := 2) (lv' := [(3, .int 2), (2, .int v_18), (1, .int v_15), (0, .ref (ad G k))]) hx hb dX3_pointBySums_35 hl_20 (k := 2) rfl (by decide) (by decide) rfl (fun ls_21 hl_22 => ?_)
  refine lv_goto (tgt := 6) hx hb dX3_pointBySums_38 (by decide) ?_
  refine lv_iload_n hx hb dX3_pointBySums_6 rfl (lv_at hl_22 0 rfl) ?_
  refine lv_iconst (v := 4) hx hb dX3_pointBySums_7 (by decide) ?_
  refine lv_icmp_ge (tgt := 41) hx hb dX3_pointBySums_8 (by decide) (fun h9 => absurd h9 (by decide)) (fun _ => ?_)
  refine lv_iload_n hx hb dX3_pointBySums_11 rfl (lv_at hl_22 2 rfl) ?_
  refine lv_aload_n hx hb dX3_pointBySums_12 rfl (lv_at hl_22 3 rfl) ?_
  refine g_masses C hW hm (hwc hwX3) (mc qw_127) dX3_pointBySums_13 ?_
  refine lv_iload_n hx hb dX3_pointBySums_16 rfl (lv_at hl_22 0 rfl) ?_
  refine g_mld C hW hm 2 (by decide) (vlit (by decide)) dX3_pointBySums_17 ?_
  refine g_mpS C hS nw_19 dX3_pointBySums_18 ?_
  refine lv_iload_n hx hb dX3_pointBySums_21 rfl (lv_at hl_22 0 rfl) ?_
  refine g_mp (v := 327) C hS (vlit (by decide)) rfl dX3_pointBySums_22 ?_
  refine lv_imul hx hb dX3_pointBySums_23 ?_
  refine lv_iadd hx hb dX3_pointBySums_24 ?_
  refine lv_topi (fun v_23 ev_23 => ?_)
  refine lv_istore_n (lv' := [(1, .int v_23), (3, .int 2), (2, .int v_18), (0, .ref (ad G k))]) hx hb dX3_pointBySums_25 rfl hl_22 (by decide) rfl (fun ls_24 hl_25 => ?_)
  refine lv_iload_n hx hb dX3_pointBySums_26 rfl (lv_at hl_25 2 rfl) ?_
  refine lv_aload_n hx hb dX3_pointBySums_27 rfl (lv_at hl_25 3 rfl) ?_
  refine g_masses C hW hm (hwc hwX3) (mc qw_127) dX3_pointBySums_28 ?_
  refine lv_iload_n hx hb dX3_pointBySums_31 rfl (lv_at hl_25 1 rfl) ?_
  refine g_mld C hW hm 2 (by decide) (vlit (by decide)) dX3_pointBySums_32 ?_
  refine lv_iadd hx hb dX3_pointBySums_33 ?_
  refine lv_topi (fun v_26 ev_26 => ?_)
  refine lv_istore_n (lv' := [(2, .int v_26), (1, .int v_23), (3, .int 2), (0, .ref (ad G k))]) hx hb dX3_pointBySums_34 rfl hl_25 (by decide) rfl (fun ls_27 hl_28 => ?_)
  refine lv_iinc (v := 3) (lv' := [(3, .int 3), (2, .int v_26), (1, .int v_23), (0, .ref (ad G k))]) hx hb dX3_pointBySums_35 hl_28 (k := 2) rfl (by decide) (by decide) rfl (fun ls_29 hl_30 => ?_)
  refine lv_goto (tgt := 6) hx hb dX3_pointBySums_38 (by decide) ?_
  refine lv_iload_n hx hb dX3_pointBySums_6 rfl (lv_at hl_30 0 rfl) ?_
  refine lv_iconst (v := 4) hx hb dX3_pointBySums_7 (by decide) ?_
  refine lv_icmp_ge (tgt := 41) hx hb dX3_pointBySums_8 (by decide) (fun h9 => absurd h9 (by decide)) (fun _ => ?_)
  refine lv_iload_n hx hb dX3_pointBySums_11 rfl (lv_at hl_30 2 rfl) ?_
  refine lv_aload_n hx hb dX3_pointBySums_12 rfl (lv_at hl_30 3 rfl) ?_
  refine g_masses C hW hm (hwc hwX3) (mc qw_127) dX3_pointBySums_13 ?_
  refine lv_iload_n hx hb dX3_pointBySums_16 rfl (lv_at hl_30 0 rfl) ?_
  refine g_mld C hW hm 3 (by decide) (vlit (by decide)) dX3_pointBySums_17 ?_
  refine g_mpS C hS nw_19 dX3_pointBySums_18 ?_
  refine lv_iload_n hx hb dX3_pointBySums_21 rfl (lv_at hl_30 0 rfl) ?_
  refine g_mp (v := 1200) C hS (vlit (by decide)) rfl dX3_pointBySums_22 ?_
  refine lv_imul hx hb dX3_pointBySums_23 ?_
  refine lv_iadd hx hb dX3_pointBySums_24 ?_
  refine lv_topi (fun v_31 ev_31 => ?_)
  refine lv_istore_n (lv' := [(1, .int v_31), (3, .int 3), (2, .int v_26), (0, .ref (ad G k))]) hx hb dX3_pointBySums_25 rfl hl_30 (by decide) rfl (fun ls_32 hl_33 => ?_)
  refine lv_iload_n hx hb dX3_pointBySums_26 rfl (lv_at hl_33 2 rfl) ?_
  refine lv_aload_n hx hb dX3_pointBySums_27 rfl (lv_at hl_33 3 rfl) ?_
  refine g_masses C hW hm (hwc hwX3) (mc qw_127) dX3_pointBySums_28 ?_
  refine lv_iload_n hx hb dX3_pointBySums_31 rfl (lv_at hl_33 1 rfl) ?_
  refine g_mld C hW hm 3 (by decide) (vlit (by decide)) dX3_pointBySums_32 ?_
  refine lv_iadd hx hb dX3_pointBySums_33 ?_
  refine lv_topi (fun v_34 ev_34 => ?_)
  refine lv_istore_n (lv' := [(2, .int v_34), (1, .int v_31), (3, .int 3), (0, .ref (ad G k))]) hx hb dX3_pointBySums_34 rfl hl_33 (by decide) rfl (fun ls_35 hl_36 => ?_)
  refine lv_iinc (v := 4) (lv' := [(3, .int 4), (2, .int v_34), (1, .int v_31), (0, .ref (ad G k))]) hx hb dX3_pointBySums_35 hl_36 (k := 2) rfl (by decide) (by decide) rfl (fun ls_37 hl_38 => ?_)
  refine lv_goto (tgt := 6) hx hb dX3_pointBySums_38 (by decide) ?_
  refine lv_iload_n hx hb dX3_pointBySums_6 rfl (lv_at hl_38 0 rfl) ?_
  refine lv_iconst (v := 4) hx hb dX3_pointBySums_7 (by decide) ?_
  refine lv_icmp_ge (tgt := 41) hx hb dX3_pointBySums_8 (by decide) (fun _ => ?_) (fun h9 => absurd h9 (by decide))
  refine lv_iload_n hx hb dX3_pointBySums_41 rfl (lv_at hl_38 1 rfl) ?_
  refine lv_if_le (tgt := 51) hx hb dX3_pointBySums_42 (by decide) (fun b_39 => ?_) (fun b_39 => ?_)
  · refine lv_iconst (v := 0) hx hb dX3_pointBySums_51 (by decide) ?_
    exact g_iret C hr hlk hW hS dX3_pointBySums_52 (by subst ev_34; subst ev_31; subst ev_26; subst ev_23; subst ev_18; subst ev_15; subst ev_10; subst ev_7; exact ⟨(if_pos b_39).symm, rfl⟩)
  · refine lv_iload_n hx hb dX3_pointBySums_45 rfl (lv_at hl_38 2 rfl) ?_
    refine lv_iload_n hx hb dX3_pointBySums_46 rfl (lv_at hl_38 1 rfl) ?_
    refine lv_idiv hx hb dX3_pointBySums_47 (fun q => b_39 (by rw [q]; decide)) ?_
    refine lv_goto (tgt := 52) hx hb dX3_pointBySums_48 (by decide) ?_
    exact g_iret C hr hlk hW hS dX3_pointBySums_52 (by subst ev_34; subst ev_31; subst ev_26; subst ev_23; subst ev_18; subst ev_15; subst ev_10; subst ev_7; exact ⟨(if_neg b_39).symm, rfl⟩)

set_option maxHeartbeats 4000000 in
set_option maxRecDepth 100000 in
theorem cX3_pointByDifferences_ok (l : Launch) (G : GT) (X : St) (k a r i : Nat) (hm : Mix G k a r i) : MetI l G yX3_pointByDifferences (wsG yX3_pointByDifferences cX3_pointByDifferences 5 (some .int)) (rmz 0 0) [.ref (ad G k)] X (fun res Y => res = pdW (X.1 r) i ∧ Y = X) := by
  refine g_met (cc := cX3_pointByDifferences) (maxL := 5) (ret := (some .int)) (by decide) rfl (Nat.le_of_ble_eq_true rfl) ?_
  intro p e s m below meth c ls C hr hlk hnm hW hl
  have hx := C.1.1
  have hb := C.1.2.1
  have hS : va_S (Ab G) s.heap s.heap [] := va_S.rf
  have hl : lv_has ls 5 [(0, .ref (ad G k))] := hl
  refine g_mpS C hS nw_19 dX3_pointByDifferences_0 ?_
  refine lv_iconst (v := 1) hx hb dX3_pointByDifferences_3 (by decide) ?_
  refine g_mp (v := 232) C hS (vlit (by decide)) rfl dX3_pointByDifferences_4 ?_
  refine lv_istore_n (lv' := [(1, .int 232), (0, .ref (ad G k))]) hx hb dX3_pointByDifferences_5 rfl hl (by decide) rfl (fun ls_1 hl_2 => ?_)
  refine lv_iconst (v := 0) hx hb dX3_pointByDifferences_6 (by decide) ?_
  refine lv_istore_n (lv' := [(2, .int 0), (1, .int 232), (0, .ref (ad G k))]) hx hb dX3_pointByDifferences_7 rfl hl_2 (by decide) rfl (fun ls_3 hl_4 => ?_)
  refine lv_iconst (v := 0) hx hb dX3_pointByDifferences_8 (by decide) ?_
  refine lv_istore_n (lv' := [(3, .int 0), (2, .int 0), (1, .int 232), (0, .ref (ad G k))]) hx hb dX3_pointByDifferences_9 rfl hl_4 (by decide) rfl (fun ls_5 hl_6 => ?_)
  refine lv_iconst (v := 0) hx hb dX3_pointByDifferences_10 (by decide) ?_
  refine lv_istore (lv' := [(4, .int 0), (3, .int 0), (2, .int 0), (1, .int 232), (0, .ref (ad G k))]) hx hb dX3_pointByDifferences_11 hl_6 (by decide) rfl (fun ls_7 hl_8 => ?_)
  refine lv_iload hx hb dX3_pointByDifferences_13 (lv_at hl_8 0 rfl) ?_
  refine lv_iconst (v := 4) hx hb dX3_pointByDifferences_15 (by decide) ?_
  refine lv_icmp_ge (tgt := 54) hx hb dX3_pointByDifferences_16 (by decide) (fun h9 => absurd h9 (by decide)) (fun _ => ?_)
  refine lv_iload_n hx hb dX3_pointByDifferences_19 rfl (lv_at hl_8 2 rfl) ?_
  refine lv_aload_n hx hb dX3_pointByDifferences_20 rfl (lv_at hl_8 4 rfl) ?_
  refine g_masses C hW hm (hwc hwX3) (mc qw_127) dX3_pointByDifferences_21 ?_
  refine lv_iload hx hb dX3_pointByDifferences_24 (lv_at hl_8 0 rfl) ?_
  refine g_mld C hW hm 0 (by decide) (vlit (by decide)) dX3_pointByDifferences_26 ?_
  refine g_mpS C hS nw_19 dX3_pointByDifferences_27 ?_
  refine lv_iload hx hb dX3_pointByDifferences_30 (lv_at hl_8 0 rfl) ?_
  refine g_mp (v := 1085) C hS (vlit (by decide)) rfl dX3_pointByDifferences_32 ?_
  refine lv_iload_n hx hb dX3_pointByDifferences_33 rfl (lv_at hl_8 3 rfl) ?_
  refine lv_isub hx hb dX3_pointByDifferences_34 ?_
  refine g_top (y := 853) (by decide) ?_
  refine lv_imul hx hb dX3_pointByDifferences_35 ?_
  refine lv_iadd hx hb dX3_pointByDifferences_36 ?_
  refine g_top (y := ((X.1 r (i + 0)) * 853)) (Int32.zero_add _) ?_
  refine lv_topi (fun v_9 ev_9 => ?_)
  refine lv_istore_n (lv' := [(2, .int v_9), (4, .int 0), (3, .int 0), (1, .int 232), (0, .ref (ad G k))]) hx hb dX3_pointByDifferences_37 rfl hl_8 (by decide) rfl (fun ls_10 hl_11 => ?_)
  refine lv_iload_n hx hb dX3_pointByDifferences_38 rfl (lv_at hl_11 2 rfl) ?_
  refine lv_aload_n hx hb dX3_pointByDifferences_39 rfl (lv_at hl_11 4 rfl) ?_
  refine g_masses C hW hm (hwc hwX3) (mc qw_127) dX3_pointByDifferences_40 ?_
  refine lv_iload hx hb dX3_pointByDifferences_43 (lv_at hl_11 1 rfl) ?_
  refine g_mld C hW hm 0 (by decide) (vlit (by decide)) dX3_pointByDifferences_45 ?_
  refine lv_iadd hx hb dX3_pointByDifferences_46 ?_
  refine g_top (y := (X.1 r (i + 0))) (Int32.zero_add _) ?_
  refine lv_topi (fun v_12 ev_12 => ?_)
  refine lv_istore_n (lv' := [(3, .int v_12), (2, .int v_9), (4, .int 0), (1, .int 232), (0, .ref (ad G k))]) hx hb dX3_pointByDifferences_47 rfl hl_11 (by decide) rfl (fun ls_13 hl_14 => ?_)
  refine lv_iinc (v := 1) (lv' := [(4, .int 1), (3, .int v_12), (2, .int v_9), (1, .int 232), (0, .ref (ad G k))]) hx hb dX3_pointByDifferences_48 hl_14 (k := 2) rfl (by decide) (by decide) rfl (fun ls_15 hl_16 => ?_)
  refine lv_goto (tgt := 13) hx hb dX3_pointByDifferences_51 (by decide) ?_
  refine lv_iload hx hb dX3_pointByDifferences_13 (lv_at hl_16 0 rfl) ?_
  refine lv_iconst (v := 4) hx hb dX3_pointByDifferences_15 (by decide) ?_
  refine lv_icmp_ge (tgt := 54) hx hb dX3_pointByDifferences_16 (by decide) (fun h9 => absurd h9 (by decide)) (fun _ => ?_)
  refine lv_iload_n hx hb dX3_pointByDifferences_19 rfl (lv_at hl_16 2 rfl) ?_
  refine lv_aload_n hx hb dX3_pointByDifferences_20 rfl (lv_at hl_16 4 rfl) ?_
  refine g_masses C hW hm (hwc hwX3) (mc qw_127) dX3_pointByDifferences_21 ?_
  refine lv_iload hx hb dX3_pointByDifferences_24 (lv_at hl_16 0 rfl) ?_
  refine g_mld C hW hm 1 (by decide) (vlit (by decide)) dX3_pointByDifferences_26 ?_
  refine g_mpS C hS nw_19 dX3_pointByDifferences_27 ?_
  refine lv_iload hx hb dX3_pointByDifferences_30 (lv_at hl_16 0 rfl) ?_
  refine g_mp (v := 232) C hS (vlit (by decide)) rfl dX3_pointByDifferences_32 ?_
  refine lv_iload_n hx hb dX3_pointByDifferences_33 rfl (lv_at hl_16 3 rfl) ?_
  refine lv_isub hx hb dX3_pointByDifferences_34 ?_
  refine g_top (y := 0) (by decide) ?_
  refine lv_imul hx hb dX3_pointByDifferences_35 ?_
  refine lv_iadd hx hb dX3_pointByDifferences_36 ?_
  refine lv_topi (fun v_17 ev_17 => ?_)
  refine lv_istore_n (lv' := [(2, .int v_17), (4, .int 1), (3, .int v_12), (1, .int 232), (0, .ref (ad G k))]) hx hb dX3_pointByDifferences_37 rfl hl_16 (by decide) rfl (fun ls_18 hl_19 => ?_)
  refine lv_iload_n hx hb dX3_pointByDifferences_38 rfl (lv_at hl_19 2 rfl) ?_
  refine lv_aload_n hx hb dX3_pointByDifferences_39 rfl (lv_at hl_19 4 rfl) ?_
  refine g_masses C hW hm (hwc hwX3) (mc qw_127) dX3_pointByDifferences_40 ?_
  refine lv_iload hx hb dX3_pointByDifferences_43 (lv_at hl_19 1 rfl) ?_
  refine g_mld C hW hm 1 (by decide) (vlit (by decide)) dX3_pointByDifferences_45 ?_
  refine lv_iadd hx hb dX3_pointByDifferences_46 ?_
  refine lv_topi (fun v_20 ev_20 => ?_)
  refine lv_istore_n (lv' := [(3, .int v_20), (2, .int v_17), (4, .int 1), (1, .int 232), (0, .ref (ad G k))]) hx hb dX3_pointByDifferences_47 rfl hl_19 (by decide) rfl (fun ls_21 hl_22 => ?_)
  refine lv_iinc (v := 2) (lv' := [(4, .int 2), (3, .int v_20), (2, .int v_17), (1, .int 232), (0, .ref (ad G k))]) hx hb dX3_pointByDifferences_48 hl_22 (k := 2) rfl (by decide) (by decide) rfl (fun ls_23 hl_24 => ?_)
  refine lv_goto (tgt := 13) hx hb dX3_pointByDifferences_51 (by decide) ?_
  refine lv_iload hx hb dX3_pointByDifferences_13 (lv_at hl_24 0 rfl) ?_
  refine lv_iconst (v := 4) hx hb dX3_pointByDifferences_15 (by decide) ?_
  refine lv_icmp_ge (tgt := 54) hx hb dX3_pointByDifferences_16 (by decide) (fun h9 => absurd h9 (by decide)) (fun _ => ?_)
  refine lv_iload_n hx hb dX3_pointByDifferences_19 rfl (lv_at hl_24 2 rfl) ?_
  refine lv_aload_n hx hb dX3_pointByDifferences_20 rfl (lv_at hl_24 4 rfl) ?_
  refine g_masses C hW hm (hwc hwX3) (mc qw_127) dX3_pointByDifferences_21 ?_
  refine lv_iload hx hb dX3_pointByDifferences_24 (lv_at hl_24 0 rfl) ?_
  refine g_mld C hW hm 2 (by decide) (vlit (by decide)) dX3_pointByDifferences_26 ?_
  refine g_mpS C hS nw_19 dX3_pointByDifferences_27 ?_
  refine lv_iload hx hb dX3_pointByDifferences_30 (lv_at hl_24 0 rfl) ?_
  refine g_mp (v := 327) C hS (vlit (by decide)) rfl dX3_pointByDifferences_32 ?_
  refine lv_iload_n hx hb dX3_pointByDifferences_33 rfl (lv_at hl_24 3 rfl) ?_
  refine lv_isub hx hb dX3_pointByDifferences_34 ?_
  refine g_top (y := 95) (by decide) ?_
  refine lv_imul hx hb dX3_pointByDifferences_35 ?_
  refine lv_iadd hx hb dX3_pointByDifferences_36 ?_
  refine lv_topi (fun v_25 ev_25 => ?_)
  refine lv_istore_n (lv' := [(2, .int v_25), (4, .int 2), (3, .int v_20), (1, .int 232), (0, .ref (ad G k))]) hx hb dX3_pointByDifferences_37 rfl hl_24 (by decide) rfl (fun ls_26 hl_27 => ?_)
  refine lv_iload_n hx hb dX3_pointByDifferences_38 rfl (lv_at hl_27 2 rfl) ?_
  refine lv_aload_n hx hb dX3_pointByDifferences_39 rfl (lv_at hl_27 4 rfl) ?_
  refine g_masses C hW hm (hwc hwX3) (mc qw_127) dX3_pointByDifferences_40 ?_
  refine lv_iload hx hb dX3_pointByDifferences_43 (lv_at hl_27 1 rfl) ?_
  refine g_mld C hW hm 2 (by decide) (vlit (by decide)) dX3_pointByDifferences_45 ?_
  refine lv_iadd hx hb dX3_pointByDifferences_46 ?_
  refine lv_topi (fun v_28 ev_28 => ?_)
  refine lv_istore_n (lv' := [(3, .int v_28), (2, .int v_25), (4, .int 2), (1, .int 232), (0, .ref (ad G k))]) hx hb dX3_pointByDifferences_47 rfl hl_27 (by decide) rfl (fun ls_29 hl_30 => ?_)
  refine lv_iinc (v := 3) (lv' := [(4, .int 3), (3, .int v_28), (2, .int v_25), (1, .int 232), (0, .ref (ad G k))]) hx hb dX3_pointByDifferences_48 hl_30 (k := 2) rfl (by decide) (by decide) rfl (fun ls_31 hl_32 => ?_)
  refine lv_goto (tgt := 13) hx hb dX3_pointByDifferences_51 (by decide) ?_
  refine lv_iload hx hb dX3_pointByDifferences_13 (lv_at hl_32 0 rfl) ?_
  refine lv_iconst (v := 4) hx hb dX3_pointByDifferences_15 (by decide) ?_
  refine lv_icmp_ge (tgt := 54) hx hb dX3_pointByDifferences_16 (by decide) (fun h9 => absurd h9 (by decide)) (fun _ => ?_)
  refine lv_iload_n hx hb dX3_pointByDifferences_19 rfl (lv_at hl_32 2 rfl) ?_
  refine lv_aload_n hx hb dX3_pointByDifferences_20 rfl (lv_at hl_32 4 rfl) ?_
  refine g_masses C hW hm (hwc hwX3) (mc qw_127) dX3_pointByDifferences_21 ?_
  refine lv_iload hx hb dX3_pointByDifferences_24 (lv_at hl_32 0 rfl) ?_
  refine g_mld C hW hm 3 (by decide) (vlit (by decide)) dX3_pointByDifferences_26 ?_
  refine g_mpS C hS nw_19 dX3_pointByDifferences_27 ?_
  refine lv_iload hx hb dX3_pointByDifferences_30 (lv_at hl_32 0 rfl) ?_
  refine g_mp (v := 1200) C hS (vlit (by decide)) rfl dX3_pointByDifferences_32 ?_
  refine lv_iload_n hx hb dX3_pointByDifferences_33 rfl (lv_at hl_32 3 rfl) ?_
  refine lv_isub hx hb dX3_pointByDifferences_34 ?_
  refine g_top (y := 968) (by decide) ?_
  refine lv_imul hx hb dX3_pointByDifferences_35 ?_
  refine lv_iadd hx hb dX3_pointByDifferences_36 ?_
  refine lv_topi (fun v_33 ev_33 => ?_)
  refine lv_istore_n (lv' := [(2, .int v_33), (4, .int 3), (3, .int v_28), (1, .int 232), (0, .ref (ad G k))]) hx hb dX3_pointByDifferences_37 rfl hl_32 (by decide) rfl (fun ls_34 hl_35 => ?_)
  refine lv_iload_n hx hb dX3_pointByDifferences_38 rfl (lv_at hl_35 2 rfl) ?_
  refine lv_aload_n hx hb dX3_pointByDifferences_39 rfl (lv_at hl_35 4 rfl) ?_
  refine g_masses C hW hm (hwc hwX3) (mc qw_127) dX3_pointByDifferences_40 ?_
  refine lv_iload hx hb dX3_pointByDifferences_43 (lv_at hl_35 1 rfl) ?_
  refine g_mld C hW hm 3 (by decide) (vlit (by decide)) dX3_pointByDifferences_45 ?_
  refine lv_iadd hx hb dX3_pointByDifferences_46 ?_
  refine lv_topi (fun v_36 ev_36 => ?_)
  refine lv_istore_n (lv' := [(3, .int v_36), (2, .int v_33), (4, .int 3), (1, .int 232), (0, .ref (ad G k))]) hx hb dX3_pointByDifferences_47 rfl hl_35 (by decide) rfl (fun ls_37 hl_38 => ?_)
  refine lv_iinc (v := 4) (lv' := [(4, .int 4), (3, .int v_36), (2, .int v_33), (1, .int 232), (0, .ref (ad G k))]) hx hb dX3_pointByDifferences_48 hl_38 (k := 2) rfl (by decide) (by decide) rfl (fun ls_39 hl_40 => ?_)
  refine lv_goto (tgt := 13) hx hb dX3_pointByDifferences_51 (by decide) ?_
  refine lv_iload hx hb dX3_pointByDifferences_13 (lv_at hl_40 0 rfl) ?_
  refine lv_iconst (v := 4) hx hb dX3_pointByDifferences_15 (by decide) ?_
  refine lv_icmp_ge (tgt := 54) hx hb dX3_pointByDifferences_16 (by decide) (fun _ => ?_) (fun h9 => absurd h9 (by decide))
  refine lv_iload_n hx hb dX3_pointByDifferences_54 rfl (lv_at hl_40 1 rfl) ?_
  refine lv_if_le (tgt := 66) hx hb dX3_pointByDifferences_55 (by decide) (fun b_41 => ?_) (fun b_41 => ?_)
  · refine lv_iconst (v := 0) hx hb dX3_pointByDifferences_66 (by decide) ?_
    exact g_iret C hr hlk hW hS dX3_pointByDifferences_67 (by subst ev_36; subst ev_33; subst ev_28; subst ev_25; subst ev_20; subst ev_17; subst ev_12; subst ev_9; exact ⟨(if_pos b_41).symm, rfl⟩)
  · refine lv_iload_n hx hb dX3_pointByDifferences_58 rfl (lv_at hl_40 3 rfl) ?_
    refine lv_iload_n hx hb dX3_pointByDifferences_59 rfl (lv_at hl_40 2 rfl) ?_
    refine lv_iload_n hx hb dX3_pointByDifferences_60 rfl (lv_at hl_40 1 rfl) ?_
    refine lv_idiv hx hb dX3_pointByDifferences_61 (fun q => b_41 (by rw [q]; decide)) ?_
    refine lv_iadd hx hb dX3_pointByDifferences_62 ?_
    refine lv_goto (tgt := 67) hx hb dX3_pointByDifferences_63 (by decide) ?_
    exact g_iret C hr hlk hW hS dX3_pointByDifferences_67 (by subst ev_36; subst ev_33; subst ev_28; subst ev_25; subst ev_20; subst ev_17; subst ev_12; subst ev_9; exact ⟨(if_neg b_41).symm, rfl⟩)

set_option maxHeartbeats 4000000 in
set_option maxRecDepth 100000 in
theorem cX3_addAll_ok (l : Launch) (G : GT) (X : St) (k a r i : Nat) (hm : Mix G k a r i) (k2 a2 i2 : Nat) (hm2 : Mix G k2 a2 r i2) : MetV l G yX3_addAll (wsG yX3_addAll cX3_addAll 3 none) (rmz 0 0) [.ref (ad G k), .ref (ad G k2)] X (fun Y => Y = setRow X r (addAllR (X.1 r) i i2)) := by
  refine g_met (cc := cX3_addAll) (maxL := 3) (ret := none) (by decide) rfl (Nat.le_of_ble_eq_true rfl) ?_
  intro p e s m below meth c ls C hr hlk hnm hW hl
  have hx := C.1.1
  have hb := C.1.2.1
  have hS : va_S (Ab G) s.heap s.heap [] := va_S.rf
  have hl : lv_has ls 3 [(0, .ref (ad G k)), (1, .ref (ad G k2))] := hl
  refine lv_iconst (v := 0) hx hb dX3_addAll_0 (by decide) ?_
  refine lv_istore_n (lv' := [(2, .int 0), (0, .ref (ad G k)), (1, .ref (ad G k2))]) hx hb dX3_addAll_1 rfl hl (by decide) rfl (fun ls_1 hl_2 => ?_)
  refine lv_iload_n hx hb dX3_addAll_2 rfl (lv_at hl_2 0 rfl) ?_
  refine lv_iconst (v := 4) hx hb dX3_addAll_3 (by decide) ?_
  refine lv_icmp_ge (tgt := 28) hx hb dX3_addAll_4 (by decide) (fun h9 => absurd h9 (by decide)) (fun _ => ?_)
  refine lv_aload_n hx hb dX3_addAll_7 rfl (lv_at hl_2 1 rfl) ?_
  refine g_masses C hW hm (hwc hwX3) (mc qw_127) dX3_addAll_8 ?_
  refine lv_iload_n hx hb dX3_addAll_11 rfl (lv_at hl_2 0 rfl) ?_
  refine lv_dup2_11 hx hb dX3_addAll_12 rfl rfl ?_
  refine g_mld C hW hm 0 (by decide) (vlit (by decide)) dX3_addAll_13 ?_
  refine lv_aload_n hx hb dX3_addAll_14 rfl (lv_at hl_2 2 rfl) ?_
  refine g_masses C hW hm2 (hwc hwX3) (mc qw_127) dX3_addAll_15 ?_
  refine lv_iload_n hx hb dX3_addAll_18 rfl (lv_at hl_2 0 rfl) ?_
  refine g_mld C hW hm2 0 (by decide) (vlit (by decide)) dX3_addAll_19 ?_
  refine lv_iadd hx hb dX3_addAll_20 ?_
  refine g_mst C hW hS hm 0 (by decide) (vlit (by decide)) dX3_addAll_21 (fun H_3 locs_4 hW_5 hS_6 => ?_)
  obtain ⟨w_7, ew_7⟩ : ∃ Z9, Z9 = upd (X.1 r) (i + 0) ((X.1 r (i + 0)) + (X.1 r (i2 + 0))) := ⟨_, rfl⟩
  have hW_8 : Wd G (setRow X r w_7) H_3 := Wd.cast (by rw [ew_7]; exact st_base) hW_5
  refine lv_iinc (v := 1) (lv' := [(2, .int 1), (0, .ref (ad G k)), (1, .ref (ad G k2))]) hx hb dX3_addAll_22 hl_2 (k := 0) rfl (by decide) (by decide) rfl (fun ls_9 hl_10 => ?_)
  refine lv_goto (tgt := 2) hx hb dX3_addAll_25 (by decide) ?_
  refine lv_iload_n hx hb dX3_addAll_2 rfl (lv_at hl_10 0 rfl) ?_
  refine lv_iconst (v := 4) hx hb dX3_addAll_3 (by decide) ?_
  refine lv_icmp_ge (tgt := 28) hx hb dX3_addAll_4 (by decide) (fun h9 => absurd h9 (by decide)) (fun _ => ?_)
  refine lv_aload_n hx hb dX3_addAll_7 rfl (lv_at hl_10 1 rfl) ?_
  refine g_masses C hW_8 hm (hwc hwX3) (mc qw_127) dX3_addAll_8 ?_
  refine lv_iload_n hx hb dX3_addAll_11 rfl (lv_at hl_10 0 rfl) ?_
  refine lv_dup2_11 hx hb dX3_addAll_12 rfl rfl ?_
  refine g_mld C hW_8 hm 1 (by decide) (vlit (by decide)) dX3_addAll_13 ?_
  refine g_top (y := w_7 (i + 1)) (congrFun rd_out _) ?_
  refine lv_aload_n hx hb dX3_addAll_14 rfl (lv_at hl_10 2 rfl) ?_
  refine g_masses C hW_8 hm2 (hwc hwX3) (mc qw_127) dX3_addAll_15 ?_
  refine lv_iload_n hx hb dX3_addAll_18 rfl (lv_at hl_10 0 rfl) ?_
  refine g_mld C hW_8 hm2 1 (by decide) (vlit (by decide)) dX3_addAll_19 ?_
  refine g_top (y := w_7 (i2 + 1)) (congrFun rd_out _) ?_
  refine lv_iadd hx hb dX3_addAll_20 ?_
  refine g_mst C hW_8 hS_6 hm 1 (by decide) (vlit (by decide)) dX3_addAll_21 (fun H_11 locs_12 hW_13 hS_14 => ?_)
  obtain ⟨w_15, ew_15⟩ : ∃ Z9, Z9 = upd w_7 (i + 1) ((w_7 (i + 1)) + (w_7 (i2 + 1))) := ⟨_, rfl⟩
  have hW_16 : Wd G (setRow X r w_15) H_11 := Wd.cast (by rw [ew_15]; exact st_out) hW_13
  refine lv_iinc (v := 2) (lv' := [(2, .int 2), (0, .ref (ad G k)), (1, .ref (ad G k2))]) hx hb dX3_addAll_22 hl_10 (k := 0) rfl (by decide) (by decide) rfl (fun ls_17 hl_18 => ?_)
  refine lv_goto (tgt := 2) hx hb dX3_addAll_25 (by decide) ?_
  refine lv_iload_n hx hb dX3_addAll_2 rfl (lv_at hl_18 0 rfl) ?_
  refine lv_iconst (v := 4) hx hb dX3_addAll_3 (by decide) ?_
  refine lv_icmp_ge (tgt := 28) hx hb dX3_addAll_4 (by decide) (fun h9 => absurd h9 (by decide)) (fun _ => ?_)
  refine lv_aload_n hx hb dX3_addAll_7 rfl (lv_at hl_18 1 rfl) ?_
  refine g_masses C hW_16 hm (hwc hwX3) (mc qw_127) dX3_addAll_8 ?_
  refine lv_iload_n hx hb dX3_addAll_11 rfl (lv_at hl_18 0 rfl) ?_
  refine lv_dup2_11 hx hb dX3_addAll_12 rfl rfl ?_
  refine g_mld C hW_16 hm 2 (by decide) (vlit (by decide)) dX3_addAll_13 ?_
  refine g_top (y := w_15 (i + 2)) (congrFun rd_out _) ?_
  refine lv_aload_n hx hb dX3_addAll_14 rfl (lv_at hl_18 2 rfl) ?_
  refine g_masses C hW_16 hm2 (hwc hwX3) (mc qw_127) dX3_addAll_15 ?_
  refine lv_iload_n hx hb dX3_addAll_18 rfl (lv_at hl_18 0 rfl) ?_
  refine g_mld C hW_16 hm2 2 (by decide) (vlit (by decide)) dX3_addAll_19 ?_
  refine g_top (y := w_15 (i2 + 2)) (congrFun rd_out _) ?_
  refine lv_iadd hx hb dX3_addAll_20 ?_
  refine g_mst C hW_16 hS_14 hm 2 (by decide) (vlit (by decide)) dX3_addAll_21 (fun H_19 locs_20 hW_21 hS_22 => ?_)
  obtain ⟨w_23, ew_23⟩ : ∃ Z9, Z9 = upd w_15 (i + 2) ((w_15 (i + 2)) + (w_15 (i2 + 2))) := ⟨_, rfl⟩
  have hW_24 : Wd G (setRow X r w_23) H_19 := Wd.cast (by rw [ew_23]; exact st_out) hW_21
  refine lv_iinc (v := 3) (lv' := [(2, .int 3), (0, .ref (ad G k)), (1, .ref (ad G k2))]) hx hb dX3_addAll_22 hl_18 (k := 0) rfl (by decide) (by decide) rfl (fun ls_25 hl_26 => ?_)
  refine lv_goto (tgt := 2) hx hb dX3_addAll_25 (by decide) ?_
  refine lv_iload_n hx hb dX3_addAll_2 rfl (lv_at hl_26 0 rfl) ?_
  refine lv_iconst (v := 4) hx hb dX3_addAll_3 (by decide) ?_
  refine lv_icmp_ge (tgt := 28) hx hb dX3_addAll_4 (by decide) (fun h9 => absurd h9 (by decide)) (fun _ => ?_)
  refine lv_aload_n hx hb dX3_addAll_7 rfl (lv_at hl_26 1 rfl) ?_
  refine g_masses C hW_24 hm (hwc hwX3) (mc qw_127) dX3_addAll_8 ?_
  refine lv_iload_n hx hb dX3_addAll_11 rfl (lv_at hl_26 0 rfl) ?_
  refine lv_dup2_11 hx hb dX3_addAll_12 rfl rfl ?_
  refine g_mld C hW_24 hm 3 (by decide) (vlit (by decide)) dX3_addAll_13 ?_
  refine g_top (y := w_23 (i + 3)) (congrFun rd_out _) ?_
  refine lv_aload_n hx hb dX3_addAll_14 rfl (lv_at hl_26 2 rfl) ?_
  refine g_masses C hW_24 hm2 (hwc hwX3) (mc qw_127) dX3_addAll_15 ?_
  refine lv_iload_n hx hb dX3_addAll_18 rfl (lv_at hl_26 0 rfl) ?_
  refine g_mld C hW_24 hm2 3 (by decide) (vlit (by decide)) dX3_addAll_19 ?_
  refine g_top (y := w_23 (i2 + 3)) (congrFun rd_out _) ?_
  refine lv_iadd hx hb dX3_addAll_20 ?_
  refine g_mst C hW_24 hS_22 hm 3 (by decide) (vlit (by decide)) dX3_addAll_21 (fun H_27 locs_28 hW_29 hS_30 => ?_)
  obtain ⟨w_31, ew_31⟩ : ∃ Z9, Z9 = upd w_23 (i + 3) ((w_23 (i + 3)) + (w_23 (i2 + 3))) := ⟨_, rfl⟩
  have hW_32 : Wd G (setRow X r w_31) H_27 := Wd.cast (by rw [ew_31]; exact st_out) hW_29
  refine lv_iinc (v := 4) (lv' := [(2, .int 4), (0, .ref (ad G k)), (1, .ref (ad G k2))]) hx hb dX3_addAll_22 hl_26 (k := 0) rfl (by decide) (by decide) rfl (fun ls_33 hl_34 => ?_)
  refine lv_goto (tgt := 2) hx hb dX3_addAll_25 (by decide) ?_
  refine lv_iload_n hx hb dX3_addAll_2 rfl (lv_at hl_34 0 rfl) ?_
  refine lv_iconst (v := 4) hx hb dX3_addAll_3 (by decide) ?_
  refine lv_icmp_ge (tgt := 28) hx hb dX3_addAll_4 (by decide) (fun _ => ?_) (fun h9 => absurd h9 (by decide))
  exact g_vret C hr hlk hW_32 hS_30 dX3_addAll_28 (by subst ew_31; subst ew_23; subst ew_15; subst ew_7; rfl)

set_option maxHeartbeats 4000000 in
set_option maxRecDepth 100000 in
theorem cX3_clear_ok (l : Launch) (G : GT) (X : St) (k a r i : Nat) (hm : Mix G k a r i) : MetV l G yX3_clear (wsG yX3_clear cX3_clear 2 none) (rmz 0 0) [.ref (ad G k)] X (fun Y => Y = setRow X r (clrR (X.1 r) i)) := by
  refine g_met (cc := cX3_clear) (maxL := 2) (ret := none) (by decide) rfl (Nat.le_of_ble_eq_true rfl) ?_
  intro p e s m below meth c ls C hr hlk hnm hW hl
  have hx := C.1.1
  have hb := C.1.2.1
  have hS : va_S (Ab G) s.heap s.heap [] := va_S.rf
  have hl : lv_has ls 2 [(0, .ref (ad G k))] := hl
  refine lv_iconst (v := 0) hx hb dX3_clear_0 (by decide) ?_
  refine lv_istore_n (lv' := [(1, .int 0), (0, .ref (ad G k))]) hx hb dX3_clear_1 rfl hl (by decide) rfl (fun ls_1 hl_2 => ?_)
  refine lv_iload_n hx hb dX3_clear_2 rfl (lv_at hl_2 0 rfl) ?_
  refine lv_iconst (v := 4) hx hb dX3_clear_3 (by decide) ?_
  refine lv_icmp_ge (tgt := 20) hx hb dX3_clear_4 (by decide) (fun h9 => absurd h9 (by decide)) (fun _ => ?_)
  refine lv_aload_n hx hb dX3_clear_7 rfl (lv_at hl_2 1 rfl) ?_
  refine g_masses C hW hm (hwc hwX3) (mc qw_127) dX3_clear_8 ?_
  refine lv_iload_n hx hb dX3_clear_11 rfl (lv_at hl_2 0 rfl) ?_
  refine lv_iconst (v := 0) hx hb dX3_clear_12 (by decide) ?_
  refine g_mst C hW hS hm 0 (by decide) (vlit (by decide)) dX3_clear_13 (fun H_3 locs_4 hW_5 hS_6 => ?_)
  obtain ⟨w_7, ew_7⟩ : ∃ Z9, Z9 = upd (X.1 r) (i + 0) 0 := ⟨_, rfl⟩
  have hW_8 : Wd G (setRow X r w_7) H_3 := Wd.cast (by rw [ew_7]; exact st_base) hW_5
  refine lv_iinc (v := 1) (lv' := [(1, .int 1), (0, .ref (ad G k))]) hx hb dX3_clear_14 hl_2 (k := 0) rfl (by decide) (by decide) rfl (fun ls_9 hl_10 => ?_)
  refine lv_goto (tgt := 2) hx hb dX3_clear_17 (by decide) ?_
  refine lv_iload_n hx hb dX3_clear_2 rfl (lv_at hl_10 0 rfl) ?_
  refine lv_iconst (v := 4) hx hb dX3_clear_3 (by decide) ?_
  refine lv_icmp_ge (tgt := 20) hx hb dX3_clear_4 (by decide) (fun h9 => absurd h9 (by decide)) (fun _ => ?_)
  refine lv_aload_n hx hb dX3_clear_7 rfl (lv_at hl_10 1 rfl) ?_
  refine g_masses C hW_8 hm (hwc hwX3) (mc qw_127) dX3_clear_8 ?_
  refine lv_iload_n hx hb dX3_clear_11 rfl (lv_at hl_10 0 rfl) ?_
  refine lv_iconst (v := 0) hx hb dX3_clear_12 (by decide) ?_
  refine g_mst C hW_8 hS_6 hm 1 (by decide) (vlit (by decide)) dX3_clear_13 (fun H_11 locs_12 hW_13 hS_14 => ?_)
  obtain ⟨w_15, ew_15⟩ : ∃ Z9, Z9 = upd w_7 (i + 1) 0 := ⟨_, rfl⟩
  have hW_16 : Wd G (setRow X r w_15) H_11 := Wd.cast (by rw [ew_15]; exact st_out) hW_13
  refine lv_iinc (v := 2) (lv' := [(1, .int 2), (0, .ref (ad G k))]) hx hb dX3_clear_14 hl_10 (k := 0) rfl (by decide) (by decide) rfl (fun ls_17 hl_18 => ?_)
  refine lv_goto (tgt := 2) hx hb dX3_clear_17 (by decide) ?_
  refine lv_iload_n hx hb dX3_clear_2 rfl (lv_at hl_18 0 rfl) ?_
  refine lv_iconst (v := 4) hx hb dX3_clear_3 (by decide) ?_
  refine lv_icmp_ge (tgt := 20) hx hb dX3_clear_4 (by decide) (fun h9 => absurd h9 (by decide)) (fun _ => ?_)
  refine lv_aload_n hx hb dX3_clear_7 rfl (lv_at hl_18 1 rfl) ?_
  refine g_masses C hW_16 hm (hwc hwX3) (mc qw_127) dX3_clear_8 ?_
  refine lv_iload_n hx hb dX3_clear_11 rfl (lv_at hl_18 0 rfl) ?_
  refine lv_iconst (v := 0) hx hb dX3_clear_12 (by decide) ?_
  refine g_mst C hW_16 hS_14 hm 2 (by decide) (vlit (by decide)) dX3_clear_13 (fun H_19 locs_20 hW_21 hS_22 => ?_)
  obtain ⟨w_23, ew_23⟩ : ∃ Z9, Z9 = upd w_15 (i + 2) 0 := ⟨_, rfl⟩
  have hW_24 : Wd G (setRow X r w_23) H_19 := Wd.cast (by rw [ew_23]; exact st_out) hW_21
  refine lv_iinc (v := 3) (lv' := [(1, .int 3), (0, .ref (ad G k))]) hx hb dX3_clear_14 hl_18 (k := 0) rfl (by decide) (by decide) rfl (fun ls_25 hl_26 => ?_)
  refine lv_goto (tgt := 2) hx hb dX3_clear_17 (by decide) ?_
  refine lv_iload_n hx hb dX3_clear_2 rfl (lv_at hl_26 0 rfl) ?_
  refine lv_iconst (v := 4) hx hb dX3_clear_3 (by decide) ?_
  refine lv_icmp_ge (tgt := 20) hx hb dX3_clear_4 (by decide) (fun h9 => absurd h9 (by decide)) (fun _ => ?_)
  refine lv_aload_n hx hb dX3_clear_7 rfl (lv_at hl_26 1 rfl) ?_
  refine g_masses C hW_24 hm (hwc hwX3) (mc qw_127) dX3_clear_8 ?_
  refine lv_iload_n hx hb dX3_clear_11 rfl (lv_at hl_26 0 rfl) ?_
  refine lv_iconst (v := 0) hx hb dX3_clear_12 (by decide) ?_
  refine g_mst C hW_24 hS_22 hm 3 (by decide) (vlit (by decide)) dX3_clear_13 (fun H_27 locs_28 hW_29 hS_30 => ?_)
  obtain ⟨w_31, ew_31⟩ : ∃ Z9, Z9 = upd w_23 (i + 3) 0 := ⟨_, rfl⟩
  have hW_32 : Wd G (setRow X r w_31) H_27 := Wd.cast (by rw [ew_31]; exact st_out) hW_29
  refine lv_iinc (v := 4) (lv' := [(1, .int 4), (0, .ref (ad G k))]) hx hb dX3_clear_14 hl_26 (k := 0) rfl (by decide) (by decide) rfl (fun ls_33 hl_34 => ?_)
  refine lv_goto (tgt := 2) hx hb dX3_clear_17 (by decide) ?_
  refine lv_iload_n hx hb dX3_clear_2 rfl (lv_at hl_34 0 rfl) ?_
  refine lv_iconst (v := 4) hx hb dX3_clear_3 (by decide) ?_
  refine lv_icmp_ge (tgt := 20) hx hb dX3_clear_4 (by decide) (fun _ => ?_) (fun h9 => absurd h9 (by decide))
  exact g_vret C hr hlk hW_32 hS_30 dX3_clear_20 (by subst ew_31; subst ew_23; subst ew_15; subst ew_7; rfl)

set_option maxHeartbeats 4000000 in
set_option maxRecDepth 100000 in
theorem cX3_thousandths_ok (l : Launch) (G : GT) (X : St) (k a r i : Nat) (hm : Mix G k a r i) (j : Nat) (hj : j < 4) : MetI l G yX3_thousandths (wsG yX3_thousandths cX3_thousandths 3 (some .int)) (rmz 1 22) [.ref (ad G k), .int (nI j)] X (fun res Y => res = thW (X.1 r) i j ∧ Y = X) := by
  refine g_met (cc := cX3_thousandths) (maxL := 3) (ret := (some .int)) (by decide) rfl (Nat.le_of_ble_eq_true rfl) ?_
  intro p e s m below meth c ls C hr hlk hnm hW hl
  have hx := C.1.1
  have hb := C.1.2.1
  have hS : va_S (Ab G) s.heap s.heap [] := va_S.rf
  have hl : lv_has ls 3 [(0, .ref (ad G k)), (1, .int (nI j))] := hl
  refine lv_aload_n hx hb dX3_thousandths_0 rfl (lv_at hl 0 rfl) ?_
  refine g_calli (va_runV (As := []) (rest := []) C.1 (cX3_sum_ok l G X k a r i hm) (cwV 0 C.1.2.2.2.2 (gV qw_744 qw_338 qw_339 qw_73 qw_340) rfl rfl rfl (by decide +kernel) ⟨Nat.le_of_ble_eq_true rfl, Nat.le_of_ble_eq_true rfl⟩) (g_rMix C hW hS hm []) rfl rfl hl.1 rfl (lv_room (Nat.le_of_ble_eq_true rfl)) dX3_thousandths_1 ⟨Nat.zero_le _, Nat.zero_le _⟩) hS (fun r_2 Y_3 H_4 locs_5 hW_6 hS_7 h_1 => ?_)
  obtain ⟨h_1, hy_8⟩ := h_1
  replace hy_8 := hy_8.symm
  subst hy_8
  subst h_1
  refine lv_topi (fun v_9 ev_9 => ?_)
  refine lv_istore_n (lv' := [(2, .int v_9), (0, .ref (ad G k)), (1, .int (nI j))]) hx hb dX3_thousandths_4 rfl hl (by decide) rfl (fun ls_10 hl_11 => ?_)
  refine lv_iload_n hx hb dX3_thousandths_5 rfl (lv_at hl_11 0 rfl) ?_
  refine lv_if_le (tgt := 24) hx hb dX3_thousandths_6 (by decide) (fun b_12 => ?_) (fun b_12 => ?_)
  · refine lv_iconst (v := 0) hx hb dX3_thousandths_24 (by decide) ?_
    exact g_iret C hr hlk hW_6 hS_7 dX3_thousandths_25 (by subst ev_9; exact ⟨(if_pos b_12).symm, rfl⟩)
  · refine lv_sipush (v := 1000) hx hb dX3_thousandths_9 (by decide) ?_
    refine lv_aload_n hx hb dX3_thousandths_12 rfl (lv_at hl_11 1 rfl) ?_
    refine g_masses C hW_6 hm (hwc hwX3) (mc qw_127) dX3_thousandths_13 ?_
    refine lv_iload_n hx hb dX3_thousandths_16 rfl (lv_at hl_11 2 rfl) ?_
    refine g_mld C hW_6 hm j (nI_clamp (by omega)) (vp_in_nI hj (by decide)) dX3_thousandths_17 ?_
    refine lv_imul hx hb dX3_thousandths_18 ?_
    refine lv_iload_n hx hb dX3_thousandths_19 rfl (lv_at hl_11 0 rfl) ?_
    refine lv_idiv hx hb dX3_thousandths_20 (fun q => b_12 (by rw [q]; decide)) ?_
    refine lv_goto (tgt := 25) hx hb dX3_thousandths_21 (by decide) ?_
    exact g_iret C hr hlk hW_6 hS_7 dX3_thousandths_25 (by subst ev_9; exact ⟨(if_neg b_12).symm, rfl⟩)

set_option maxHeartbeats 4000000 in
set_option maxRecDepth 100000 in
theorem cX3_quality_ok (l : Launch) (G : GT) (X : St) (k a r i : Nat) (hm : Mix G k a r i) : MetI l G yX3_quality (wsG yX3_quality cX3_quality 3 (some .char)) (rmz 2 44) [.ref (ad G k)] X (fun res Y => res = gradeW (X.1 r) i ∧ Y = X) := by
  refine g_met (cc := cX3_quality) (maxL := 3) (ret := (some .char)) (by decide) rfl (Nat.le_of_ble_eq_true rfl) ?_
  intro p e s m below meth c ls C hr hlk hnm hW hl
  have hx := C.1.1
  have hb := C.1.2.1
  have hS : va_S (Ab G) s.heap s.heap [] := va_S.rf
  have hl : lv_has ls 3 [(0, .ref (ad G k))] := hl
  refine lv_aload_n hx hb dX3_quality_0 rfl (lv_at hl 0 rfl) ?_
  refine lv_iconst (v := 0) hx hb dX3_quality_1 (by decide) ?_
  refine g_calli (va_runV (As := [.int 0]) (rest := []) C.1 (cX3_thousandths_ok l G X k a r i hm 0 (by decide)) (cwV 1 C.1.2.2.2.2 (gV qw_740 qw_741 qw_742 qw_73 qw_743) rfl rfl rfl (by decide +kernel) ⟨Nat.le_of_ble_eq_true rfl, Nat.le_of_ble_eq_true rfl⟩) (g_rMix C hW hS hm [.int 0]) rfl rfl hl.1 rfl (lv_room (Nat.le_of_ble_eq_true rfl)) dX3_quality_2 ⟨Nat.zero_le _, Nat.zero_le _⟩) hS (fun r_2 Y_3 H_4 locs_5 hW_6 hS_7 h_1 => ?_)
  obtain ⟨h_1, hy_8⟩ := h_1
  replace hy_8 := hy_8.symm
  subst hy_8
  subst h_1
  refine lv_topi (fun v_9 ev_9 => ?_)
  refine lv_istore_n (lv' := [(1, .int v_9), (0, .ref (ad G k))]) hx hb dX3_quality_5 rfl hl (by decide) rfl (fun ls_10 hl_11 => ?_)
  refine lv_aload_n hx hb dX3_quality_6 rfl (lv_at hl_11 1 rfl) ?_
  refine lv_iconst (v := 1) hx hb dX3_quality_7 (by decide) ?_
  refine g_calli (va_runV (As := [.int 1]) (rest := []) C.1 (cX3_thousandths_ok l G X k a r i hm 1 (by decide)) (cwV 1 C.1.2.2.2.2 (gV qw_740 qw_741 qw_742 qw_73 qw_743) rfl rfl rfl (by decide +kernel) ⟨Nat.le_of_ble_eq_true rfl, Nat.le_of_ble_eq_true rfl⟩) (g_rMix C hW_6 hS_7 hm [.int 1]) rfl rfl hl_11.1 rfl (lv_room (Nat.le_of_ble_eq_true rfl)) dX3_quality_8 ⟨Nat.zero_le _, Nat.zero_le _⟩) hS_7 (fun r_13 Y_14 H_15 locs_16 hW_17 hS_18 h_12 => ?_)
  obtain ⟨h_12, hy_19⟩ := h_12
  replace hy_19 := hy_19.symm
  subst hy_19
  subst h_12
  refine lv_topi (fun v_20 ev_20 => ?_)
  refine lv_istore_n (lv' := [(2, .int v_20), (1, .int v_9), (0, .ref (ad G k))]) hx hb dX3_quality_11 rfl hl_11 (by decide) rfl (fun ls_21 hl_22 => ?_)
  refine lv_aload_n hx hb dX3_quality_12 rfl (lv_at hl_22 2 rfl) ?_
  refine lv_iconst (v := 3) hx hb dX3_quality_13 (by decide) ?_
  refine g_calli (va_runV (As := [.int 3]) (rest := []) C.1 (cX3_thousandths_ok l G X k a r i hm 3 (by decide)) (cwV 1 C.1.2.2.2.2 (gV qw_740 qw_741 qw_742 qw_73 qw_743) rfl rfl rfl (by decide +kernel) ⟨Nat.le_of_ble_eq_true rfl, Nat.le_of_ble_eq_true rfl⟩) (g_rMix C hW_17 hS_18 hm [.int 3]) rfl rfl hl_22.1 rfl (lv_room (Nat.le_of_ble_eq_true rfl)) dX3_quality_14 ⟨Nat.zero_le _, Nat.zero_le _⟩) hS_18 (fun r_24 Y_25 H_26 locs_27 hW_28 hS_29 h_23 => ?_)
  obtain ⟨h_23, hy_30⟩ := h_23
  replace hy_30 := hy_30.symm
  subst hy_30
  subst h_23
  refine lv_bipush (v := 50) hx hb dX3_quality_17 (by decide) ?_
  refine lv_icmp_le (tgt := 25) hx hb dX3_quality_19 (by decide) (fun b_31 => ?_) (fun b_31 => ?_)
  · refine lv_iload_n hx hb dX3_quality_25 rfl (lv_at hl_22 1 rfl) ?_
    refine lv_sipush (v := 950) hx hb dX3_quality_26 (by decide) ?_
    refine lv_icmp_lt (tgt := 35) hx hb dX3_quality_29 (by decide) (fun b_32 => ?_) (fun b_32 => ?_)
    · refine lv_iload_n hx hb dX3_quality_35 rfl (lv_at hl_22 1 rfl) ?_
      refine lv_sipush (v := 800) hx hb dX3_quality_36 (by decide) ?_
      refine lv_icmp_lt (tgt := 51) hx hb dX3_quality_39 (by decide) (fun b_33 => ?_) (fun b_33 => ?_)
      · refine lv_iload_n hx hb dX3_quality_51 rfl (lv_at hl_22 0 rfl) ?_
        refine lv_sipush (v := 500) hx hb dX3_quality_52 (by decide) ?_
        refine lv_icmp_lt (tgt := 72) hx hb dX3_quality_55 (by decide) (fun b_34 => ?_) (fun b_34 => ?_)
        · refine lv_bipush (v := 120) hx hb dX3_quality_72 (by decide) ?_
          exact g_zret C hr hlk hW_28 hS_29 dX3_quality_74 rfl (by subst ev_20; subst ev_9; exact ⟨by simp only [gradeW, b_31, b_32, b_33, b_34, if_true, if_false], rfl⟩)
        · refine lv_aload_n hx hb dX3_quality_58 rfl (lv_at hl_22 2 rfl) ?_
          refine lv_iconst (v := 2) hx hb dX3_quality_59 (by decide) ?_
          refine g_calli (va_runV (As := [.int 2]) (rest := []) C.1 (cX3_thousandths_ok l G X k a r i hm 2 (by decide)) (cwV 1 C.1.2.2.2.2 (gV qw_740 qw_741 qw_742 qw_73 qw_743) rfl rfl rfl (by decide +kernel) ⟨Nat.le_of_ble_eq_true rfl, Nat.le_of_ble_eq_true rfl⟩) (g_rMix C hW_28 hS_29 hm [.int 2]) rfl rfl hl_22.1 rfl (lv_room (Nat.le_of_ble_eq_true rfl)) dX3_quality_60 ⟨Nat.zero_le _, Nat.zero_le _⟩) hS_29 (fun r_36 Y_37 H_38 locs_39 hW_40 hS_41 h_35 => ?_)
          obtain ⟨h_35, hy_42⟩ := h_35
          replace hy_42 := hy_42.symm
          subst hy_42
          subst h_35
          refine lv_sipush (v := 300) hx hb dX3_quality_63 (by decide) ?_
          refine lv_icmp_lt (tgt := 72) hx hb dX3_quality_66 (by decide) (fun b_43 => ?_) (fun b_43 => ?_)
          · refine lv_bipush (v := 120) hx hb dX3_quality_72 (by decide) ?_
            exact g_zret C hr hlk hW_40 hS_41 dX3_quality_74 rfl (by subst ev_20; subst ev_9; exact ⟨by simp only [gradeW, b_31, b_32, b_33, b_34, b_43, if_true, if_false], rfl⟩)
          · refine lv_bipush (v := 115) hx hb dX3_quality_69 (by decide) ?_
            exact g_zret C hr hlk hW_40 hS_41 dX3_quality_71 rfl (by subst ev_20; subst ev_9; exact ⟨by simp only [gradeW, b_31, b_32, b_33, b_34, b_43, if_true, if_false], rfl⟩)
      · refine lv_iload_n hx hb dX3_quality_42 rfl (lv_at hl_22 0 rfl) ?_
        refine lv_bipush (v := 100) hx hb dX3_quality_43 (by decide) ?_
        refine lv_icmp_lt (tgt := 51) hx hb dX3_quality_45 (by decide) (fun b_44 => ?_) (fun b_44 => ?_)
        · refine lv_iload_n hx hb dX3_quality_51 rfl (lv_at hl_22 0 rfl) ?_
          refine lv_sipush (v := 500) hx hb dX3_quality_52 (by decide) ?_
          refine lv_icmp_lt (tgt := 72) hx hb dX3_quality_55 (by decide) (fun b_45 => ?_) (fun b_45 => ?_)
          · refine lv_bipush (v := 120) hx hb dX3_quality_72 (by decide) ?_
            exact g_zret C hr hlk hW_28 hS_29 dX3_quality_74 rfl (by subst ev_20; subst ev_9; exact ⟨by simp only [gradeW, b_31, b_32, b_33, b_44, b_45, if_true, if_false], rfl⟩)
          · refine lv_aload_n hx hb dX3_quality_58 rfl (lv_at hl_22 2 rfl) ?_
            refine lv_iconst (v := 2) hx hb dX3_quality_59 (by decide) ?_
            refine g_calli (va_runV (As := [.int 2]) (rest := []) C.1 (cX3_thousandths_ok l G X k a r i hm 2 (by decide)) (cwV 1 C.1.2.2.2.2 (gV qw_740 qw_741 qw_742 qw_73 qw_743) rfl rfl rfl (by decide +kernel) ⟨Nat.le_of_ble_eq_true rfl, Nat.le_of_ble_eq_true rfl⟩) (g_rMix C hW_28 hS_29 hm [.int 2]) rfl rfl hl_22.1 rfl (lv_room (Nat.le_of_ble_eq_true rfl)) dX3_quality_60 ⟨Nat.zero_le _, Nat.zero_le _⟩) hS_29 (fun r_47 Y_48 H_49 locs_50 hW_51 hS_52 h_46 => ?_)
            obtain ⟨h_46, hy_53⟩ := h_46
            replace hy_53 := hy_53.symm
            subst hy_53
            subst h_46
            refine lv_sipush (v := 300) hx hb dX3_quality_63 (by decide) ?_
            refine lv_icmp_lt (tgt := 72) hx hb dX3_quality_66 (by decide) (fun b_54 => ?_) (fun b_54 => ?_)
            · refine lv_bipush (v := 120) hx hb dX3_quality_72 (by decide) ?_
              exact g_zret C hr hlk hW_51 hS_52 dX3_quality_74 rfl (by subst ev_20; subst ev_9; exact ⟨by simp only [gradeW, b_31, b_32, b_33, b_44, b_45, b_54, if_true, if_false], rfl⟩)
            · refine lv_bipush (v := 115) hx hb dX3_quality_69 (by decide) ?_
              exact g_zret C hr hlk hW_51 hS_52 dX3_quality_71 rfl (by subst ev_20; subst ev_9; exact ⟨by simp only [gradeW, b_31, b_32, b_33, b_44, b_45, b_54, if_true, if_false], rfl⟩)
        · refine lv_bipush (v := 98) hx hb dX3_quality_48 (by decide) ?_
          exact g_zret C hr hlk hW_28 hS_29 dX3_quality_50 rfl (by subst ev_20; subst ev_9; exact ⟨by simp only [gradeW, b_31, b_32, b_33, b_44, if_true, if_false], rfl⟩)
    · refine lv_bipush (v := 99) hx hb dX3_quality_32 (by decide) ?_
      exact g_zret C hr hlk hW_28 hS_29 dX3_quality_34 rfl (by subst ev_20; subst ev_9; exact ⟨by simp only [gradeW, b_31, b_32, if_true, if_false], rfl⟩)
  · refine lv_bipush (v := 120) hx hb dX3_quality_22 (by decide) ?_
    exact g_zret C hr hlk hW_28 hS_29 dX3_quality_24 rfl (by subst ev_20; subst ev_9; exact ⟨by simp only [gradeW, b_31, if_true, if_false], rfl⟩)

set_option maxHeartbeats 4000000 in
set_option maxRecDepth 100000 in
theorem cX3_move_ok (l : Launch) (G : GT) (X : St) (k a r i : Nat) (hm : Mix G k a r i) (j : Nat) (hj : j < 4) (x : Int32) (k2 a2 i2 : Nat) (hm2 : Mix G k2 a2 r i2) : MetV l G yX3_move (wsG yX3_move cX3_move 4 none) (rmz 0 0) [.ref (ad G k), .int (nI j), .int x, .ref (ad G k2)] X (fun Y => Y = setRow X r (moveR (X.1 r) i i2 j x)) := by
  refine g_met (cc := cX3_move) (maxL := 4) (ret := none) (by decide) rfl (Nat.le_of_ble_eq_true rfl) ?_
  intro p e s m below meth c ls C hr hlk hnm hW hl
  have hx := C.1.1
  have hb := C.1.2.1
  have hS : va_S (Ab G) s.heap s.heap [] := va_S.rf
  have hl : lv_has ls 4 [(0, .ref (ad G k)), (1, .int (nI j)), (2, .int x), (3, .ref (ad G k2))] := hl
  refine lv_aload_n hx hb dX3_move_0 rfl (lv_at hl 0 rfl) ?_
  refine g_masses C hW hm (hwc hwX3) (mc qw_127) dX3_move_1 ?_
  refine lv_iload_n hx hb dX3_move_4 rfl (lv_at hl 1 rfl) ?_
  refine lv_dup2_11 hx hb dX3_move_5 rfl rfl ?_
  refine g_mld C hW hm j (nI_clamp (by omega)) (vp_in_nI hj (by decide)) dX3_move_6 ?_
  refine lv_iload_n hx hb dX3_move_7 rfl (lv_at hl 2 rfl) ?_
  refine lv_isub hx hb dX3_move_8 ?_
  refine g_mst C hW hS hm j (nI_clamp (by omega)) (vp_in_nI hj (by decide)) dX3_move_9 (fun H_1 locs_2 hW_3 hS_4 => ?_)
  obtain ⟨w_5, ew_5⟩ : ∃ Z9, Z9 = upd (X.1 r) (i + j) ((X.1 r (i + j)) - x) := ⟨_, rfl⟩
  have hW_6 : Wd G (setRow X r w_5) H_1 := Wd.cast (by rw [ew_5]; exact st_base) hW_3
  refine lv_aload_n hx hb dX3_move_10 rfl (lv_at hl 3 rfl) ?_
  refine g_masses C hW_6 hm2 (hwc hwX3) (mc qw_127) dX3_move_11 ?_
  refine lv_iload_n hx hb dX3_move_14 rfl (lv_at hl 1 rfl) ?_
  refine lv_dup2_11 hx hb dX3_move_15 rfl rfl ?_
  refine g_mld C hW_6 hm2 j (nI_clamp (by omega)) (vp_in_nI hj (by decide)) dX3_move_16 ?_
  refine g_top (y := w_5 (i2 + j)) (congrFun rd_out _) ?_
  refine lv_iload_n hx hb dX3_move_17 rfl (lv_at hl 2 rfl) ?_
  refine lv_iadd hx hb dX3_move_18 ?_
  refine g_mst C hW_6 hS_4 hm2 j (nI_clamp (by omega)) (vp_in_nI hj (by decide)) dX3_move_19 (fun H_7 locs_8 hW_9 hS_10 => ?_)
  obtain ⟨w_11, ew_11⟩ : ∃ Z9, Z9 = upd w_5 (i2 + j) ((w_5 (i2 + j)) + x) := ⟨_, rfl⟩
  have hW_12 : Wd G (setRow X r w_11) H_7 := Wd.cast (by rw [ew_11]; exact st_out) hW_9
  exact g_vret C hr hlk hW_12 hS_10 dX3_move_20 (by subst ew_11; subst ew_5; rfl)

set_option maxHeartbeats 4000000 in
set_option maxRecDepth 100000 in
theorem cX6_liquid_ok (l : Launch) (G : GT) (X : St) (k kc a r i : Nat) (L : Int32) (hv : Ves G k kc a r i L) : MetI l G yX6_liquid (wsG yX6_liquid cX6_liquid 1 (some .boolean)) (rmz 1 23) [.ref (ad G k)] X (fun res Y => res = liqW (X.1 r) i ∧ Y = X) := by
  refine g_met (cc := cX6_liquid) (maxL := 1) (ret := (some .boolean)) (by decide) rfl (Nat.le_of_ble_eq_true rfl) ?_
  intro p e s m below meth c ls C hr hlk hnm hW hl
  have hx := C.1.1
  have hb := C.1.2.1
  have hS : va_S (Ab G) s.heap s.heap [] := va_S.rf
  have hl : lv_has ls 1 [(0, .ref (ad G k))] := hl
  refine lv_aload_n hx hb dX6_liquid_0 rfl (lv_at hl 0 rfl) ?_
  refine g_content C hW hv (hwc hwX6) (mc qw_141) dX6_liquid_1 ?_
  refine g_calli (va_runV (As := []) (rest := []) C.1 (cX3_sum_ok l G X kc a r i hv.mix) (cwV 0 C.1.2.2.2.2 (gV qw_359 qw_338 qw_339 qw_73 qw_340) rfl rfl rfl (by decide +kernel) ⟨Nat.le_of_ble_eq_true rfl, Nat.le_of_ble_eq_true rfl⟩) (g_rMix C hW hS hv.mix []) rfl rfl hl.1 rfl (lv_room (Nat.le_of_ble_eq_true rfl)) dX6_liquid_4 ⟨Nat.zero_le _, Nat.zero_le _⟩) hS (fun r_2 Y_3 H_4 locs_5 hW_6 hS_7 h_1 => ?_)
  obtain ⟨h_1, hy_8⟩ := h_1
  replace hy_8 := hy_8.symm
  subst hy_8
  subst h_1
  refine lv_if_le (tgt := 28) hx hb dX6_liquid_7 (by decide) (fun b_9 => ?_) (fun b_9 => ?_)
  · refine lv_iconst (v := 0) hx hb dX6_liquid_28 (by decide) ?_
    exact g_zret C hr hlk hW_6 hS_7 dX6_liquid_29 rfl (by exact ⟨by simp only [liqW, b_9, if_true, if_false], rfl⟩)
  · refine lv_aload_n hx hb dX6_liquid_10 rfl (lv_at hl 0 rfl) ?_
    refine g_temp C hW_6 hv (hwc hwX6) (mc qw_145) dX6_liquid_11 ?_
    refine lv_aload_n hx hb dX6_liquid_14 rfl (lv_at hl 0 rfl) ?_
    refine g_content C hW_6 hv (hwc hwX6) (mc qw_141) dX6_liquid_15 ?_
    refine g_calli (va_runV (As := []) (rest := [.int (X.1 r (i + 4))]) C.1 (cX3_pointBySums_ok l G X kc a r i hv.mix) (cwV 0 C.1.2.2.2.2 (gV qw_360 qw_342 qw_343 qw_73 qw_344) rfl rfl rfl (by decide +kernel) ⟨Nat.le_of_ble_eq_true rfl, Nat.le_of_ble_eq_true rfl⟩) (g_rMix C hW_6 hS_7 hv.mix []) rfl rfl hl.1 rfl (lv_room (Nat.le_of_ble_eq_true rfl)) dX6_liquid_18 ⟨Nat.zero_le _, Nat.zero_le _⟩) hS_7 (fun r_11 Y_12 H_13 locs_14 hW_15 hS_16 h_10 => ?_)
    obtain ⟨h_10, hy_17⟩ := h_10
    replace hy_17 := hy_17.symm
    subst hy_17
    subst h_10
    refine lv_icmp_lt (tgt := 28) hx hb dX6_liquid_21 (by decide) (fun b_18 => ?_) (fun b_18 => ?_)
    · refine lv_iconst (v := 0) hx hb dX6_liquid_28 (by decide) ?_
      exact g_zret C hr hlk hW_15 hS_16 dX6_liquid_29 rfl (by exact ⟨by simp only [liqW, b_9, b_18, if_true, if_false], rfl⟩)
    · refine lv_iconst (v := 1) hx hb dX6_liquid_24 (by decide) ?_
      refine lv_goto (tgt := 29) hx hb dX6_liquid_25 (by decide) ?_
      exact g_zret C hr hlk hW_15 hS_16 dX6_liquid_29 rfl (by exact ⟨by simp only [liqW, b_9, b_18, if_true, if_false], rfl⟩)

set_option maxHeartbeats 4000000 in
set_option maxRecDepth 100000 in
theorem cX6_blend_ok (l : Launch) (G : GT) (X : St) (k kc a r i : Nat) (L : Int32) (hv : Ves G k kc a r i L) (x d : Int32) : MetV l G yX6_blend (wsG yX6_blend cX6_blend 4 none) (rmz 1 22) [.ref (ad G k), .int x, .int d] X (fun Y => Y = setRow X r (blendR (X.1 r) i L x d)) := by
  refine g_met (cc := cX6_blend) (maxL := 4) (ret := none) (by decide) rfl (Nat.le_of_ble_eq_true rfl) ?_
  intro p e s m below meth c ls C hr hlk hnm hW hl
  have hx := C.1.1
  have hb := C.1.2.1
  have hS : va_S (Ab G) s.heap s.heap [] := va_S.rf
  have hl : lv_has ls 4 [(0, .ref (ad G k)), (1, .int x), (2, .int d)] := hl
  refine lv_aload_n hx hb dX6_blend_0 rfl (lv_at hl 0 rfl) ?_
  refine g_content C hW hv (hwc hwX6) (mc qw_141) dX6_blend_1 ?_
  refine g_calli (va_runV (As := []) (rest := []) C.1 (cX3_sum_ok l G X kc a r i hv.mix) (cwV 0 C.1.2.2.2.2 (gV qw_359 qw_338 qw_339 qw_73 qw_340) rfl rfl rfl (by decide +kernel) ⟨Nat.le_of_ble_eq_true rfl, Nat.le_of_ble_eq_true rfl⟩) (g_rMix C hW hS hv.mix []) rfl rfl hl.1 rfl (lv_room (Nat.le_of_ble_eq_true rfl)) dX6_blend_4 ⟨Nat.zero_le _, Nat.zero_le _⟩) hS (fun r_2 Y_3 H_4 locs_5 hW_6 hS_7 h_1 => ?_)
  obtain ⟨h_1, hy_8⟩ := h_1
  replace hy_8 := hy_8.symm
  subst hy_8
  subst h_1
  refine lv_aload_n hx hb dX6_blend_7 rfl (lv_at hl 0 rfl) ?_
  refine g_lining C hW_6 hv (hwc hwX6) (mc qw_144) dX6_blend_8 ?_
  refine lv_iadd hx hb dX6_blend_11 ?_
  refine lv_topi (fun v_9 ev_9 => ?_)
  refine lv_istore_n (lv' := [(3, .int v_9), (0, .ref (ad G k)), (1, .int x), (2, .int d)]) hx hb dX6_blend_12 rfl hl (by decide) rfl (fun ls_10 hl_11 => ?_)
  refine lv_iload_n hx hb dX6_blend_13 rfl (lv_at hl_11 0 rfl) ?_
  refine lv_iload_n hx hb dX6_blend_14 rfl (lv_at hl_11 2 rfl) ?_
  refine lv_iadd hx hb dX6_blend_15 ?_
  refine lv_if_le (tgt := 37) hx hb dX6_blend_16 (by decide) (fun b_12 => ?_) (fun b_12 => ?_)
  · exact g_vret C hr hlk hW_6 hS_7 dX6_blend_37 (by subst ev_9; simp only [blendR, b_12, if_true, if_false, sr_self])
  · refine lv_aload_n hx hb dX6_blend_19 rfl (lv_at hl_11 1 rfl) ?_
    refine lv_aload_n hx hb dX6_blend_20 rfl (lv_at hl_11 1 rfl) ?_
    refine g_temp C hW_6 hv (hwc hwX6) (mc qw_145) dX6_blend_21 ?_
    refine lv_iload_n hx hb dX6_blend_24 rfl (lv_at hl_11 0 rfl) ?_
    refine lv_imul hx hb dX6_blend_25 ?_
    refine lv_iload_n hx hb dX6_blend_26 rfl (lv_at hl_11 3 rfl) ?_
    refine lv_iload_n hx hb dX6_blend_27 rfl (lv_at hl_11 2 rfl) ?_
    refine lv_imul hx hb dX6_blend_28 ?_
    refine lv_iadd hx hb dX6_blend_29 ?_
    refine lv_iload_n hx hb dX6_blend_30 rfl (lv_at hl_11 0 rfl) ?_
    refine lv_iload_n hx hb dX6_blend_31 rfl (lv_at hl_11 2 rfl) ?_
    refine lv_iadd hx hb dX6_blend_32 ?_
    refine lv_idiv hx hb dX6_blend_33 (fun q => b_12 (by rw [q]; decide)) ?_
    refine g_tempP C hW_6 hS_7 hv (hwc hwX6) (mc qw_145) dX6_blend_34 (fun H_13 locs_14 hW_15 hS_16 => ?_)
    obtain ⟨w_17, ew_17⟩ : ∃ Z9, Z9 = upd (X.1 r) (i + 4) ((((X.1 r (i + 4)) * v_9) + (d * x)) / (v_9 + x)) := ⟨_, rfl⟩
    have hW_18 : Wd G (setRow X r w_17) H_13 := Wd.cast (by rw [ew_17]; exact st_base) hW_15
    exact g_vret C hr hlk hW_18 hS_16 dX6_blend_37 (by subst ew_17; subst ev_9; simp only [blendR, b_12, if_true, if_false, sr_self])

set_option maxHeartbeats 4000000 in
set_option maxRecDepth 100000 in
theorem cX6_warm_ok (l : Launch) (G : GT) (X : St) (k kc a r i : Nat) (L : Int32) (hv : Ves G k kc a r i L) (d : Int32) : MetV l G yX6_warm (wsG yX6_warm cX6_warm 2 none) (rmz 1 20) [.ref (ad G k), .int d] X (fun Y => Y = setRow X r (upd (X.1 r) (i + 4) (lim (X.1 r (i + 4) + d)))) := by
  refine g_met (cc := cX6_warm) (maxL := 2) (ret := none) (by decide) rfl (Nat.le_of_ble_eq_true rfl) ?_
  intro p e s m below meth c ls C hr hlk hnm hW hl
  have hx := C.1.1
  have hb := C.1.2.1
  have hS : va_S (Ab G) s.heap s.heap [] := va_S.rf
  have hl : lv_has ls 2 [(0, .ref (ad G k)), (1, .int d)] := hl
  refine lv_aload_n hx hb dX6_warm_0 rfl (lv_at hl 0 rfl) ?_
  refine lv_aload_n hx hb dX6_warm_1 rfl (lv_at hl 0 rfl) ?_
  refine g_temp C hW hv (hwc hwX6) (mc qw_145) dX6_warm_2 ?_
  refine lv_iload_n hx hb dX6_warm_5 rfl (lv_at hl 1 rfl) ?_
  refine lv_iadd hx hb dX6_warm_6 ?_
  refine g_calli (va_runSN (As := [.int ((X.1 r (i + 4)) + d)]) (rest := [.ref (ad G k)]) C.1 (cX7_withinLimits_ok l G X ((X.1 r (i + 4)) + d)) (⟨va_cnB 1 C.1.2.2.2.2 (gN qw_372) rfl rfl rfl (C.2.2.1.1 _ nw_34) (C.1.2.2.2.2 _ (mc qw_71)) (by decide +kernel) ⟨Nat.le_of_ble_eq_true rfl, Nat.le_of_ble_eq_true rfl⟩, C.1.2.2.2.2 _ (mc qw_371), trivial⟩) (g_pre C hW hS [.int ((X.1 r (i + 4)) + d)]) rfl rfl hl.1 rfl (lv_room (Nat.le_of_ble_eq_true rfl)) dX6_warm_7 ⟨Nat.zero_le _, Nat.zero_le _⟩) hS (fun r_2 Y_3 H_4 locs_5 hW_6 hS_7 h_1 => ?_)
  obtain ⟨h_1, hy_8⟩ := h_1
  replace hy_8 := hy_8.symm
  subst hy_8
  subst h_1
  refine g_tempP C hW_6 hS_7 hv (hwc hwX6) (mc qw_145) dX6_warm_10 (fun H_9 locs_10 hW_11 hS_12 => ?_)
  obtain ⟨w_13, ew_13⟩ : ∃ Z9, Z9 = upd (X.1 r) (i + 4) (lim ((X.1 r (i + 4)) + d)) := ⟨_, rfl⟩
  have hW_14 : Wd G (setRow X r w_13) H_9 := Wd.cast (by rw [ew_13]; exact st_base) hW_11
  exact g_vret C hr hlk hW_14 hS_12 dX6_warm_13 (by subst ew_13; rfl)

set_option maxHeartbeats 4000000 in
set_option maxRecDepth 100000 in
theorem cX6_chillIfEmpty_ok (l : Launch) (G : GT) (X : St) (k kc a r i : Nat) (L : Int32) (hv : Ves G k kc a r i L) : MetV l G yX6_chillIfEmpty (wsG yX6_chillIfEmpty cX6_chillIfEmpty 1 none) (rmz 1 22) [.ref (ad G k)] X (fun Y => Y = setRow X r (chillR (X.1 r) i)) := by
  refine g_met (cc := cX6_chillIfEmpty) (maxL := 1) (ret := none) (by decide) rfl (Nat.le_of_ble_eq_true rfl) ?_
  intro p e s m below meth c ls C hr hlk hnm hW hl
  have hx := C.1.1
  have hb := C.1.2.1
  have hS : va_S (Ab G) s.heap s.heap [] := va_S.rf
  have hl : lv_has ls 1 [(0, .ref (ad G k))] := hl
  refine lv_aload_n hx hb dX6_chillIfEmpty_0 rfl (lv_at hl 0 rfl) ?_
  refine g_content C hW hv (hwc hwX6) (mc qw_141) dX6_chillIfEmpty_1 ?_
  refine g_calli (va_runV (As := []) (rest := []) C.1 (cX3_sum_ok l G X kc a r i hv.mix) (cwV 0 C.1.2.2.2.2 (gV qw_359 qw_338 qw_339 qw_73 qw_340) rfl rfl rfl (by decide +kernel) ⟨Nat.le_of_ble_eq_true rfl, Nat.le_of_ble_eq_true rfl⟩) (g_rMix C hW hS hv.mix []) rfl rfl hl.1 rfl (lv_room (Nat.le_of_ble_eq_true rfl)) dX6_chillIfEmpty_4 ⟨Nat.zero_le _, Nat.zero_le _⟩) hS (fun r_2 Y_3 H_4 locs_5 hW_6 hS_7 h_1 => ?_)
  obtain ⟨h_1, hy_8⟩ := h_1
  replace hy_8 := hy_8.symm
  subst hy_8
  subst h_1
  refine lv_if_ne (tgt := 16) hx hb dX6_chillIfEmpty_7 (by decide) (fun b_9 => ?_) (fun b_9 => ?_)
  · exact g_vret C hr hlk hW_6 hS_7 dX6_chillIfEmpty_16 (by simp only [chillR, b_9, if_true, if_false, sr_self])
  · refine lv_aload_n hx hb dX6_chillIfEmpty_10 rfl (lv_at hl 0 rfl) ?_
    refine lv_bipush (v := 20) hx hb dX6_chillIfEmpty_11 (by decide) ?_
    refine g_tempP C hW_6 hS_7 hv (hwc hwX6) (mc qw_145) dX6_chillIfEmpty_13 (fun H_10 locs_11 hW_12 hS_13 => ?_)
    obtain ⟨w_14, ew_14⟩ : ∃ Z9, Z9 = upd (X.1 r) (i + 4) 20 := ⟨_, rfl⟩
    have hW_15 : Wd G (setRow X r w_14) H_10 := Wd.cast (by rw [ew_14]; exact st_base) hW_12
    exact g_vret C hr hlk hW_15 hS_13 dX6_chillIfEmpty_16 (by subst ew_14; simp only [chillR, b_9, if_true, if_false, sr_self])

set_option maxHeartbeats 4000000 in
set_option maxRecDepth 100000 in
theorem cX3_mostOf3_ok (l : Launch) (G : GT) (X : St) (k a r i : Nat) (hm : Mix G k a r i) : MetI l G yX3_mostOf (wsG yX3_mostOf cX3_mostOf 4 (some .int)) (rmz 0 0) [.ref (ad G k), .int 3] X (fun res Y => res = nI (best3 (X.1 r) i) ∧ Y = X) := by
  refine g_met (cc := cX3_mostOf) (maxL := 4) (ret := (some .int)) (by decide) rfl (Nat.le_of_ble_eq_true rfl) ?_
  intro p e s m below meth c ls C hr hlk hnm hW hl
  have hx := C.1.1
  have hb := C.1.2.1
  have hS : va_S (Ab G) s.heap s.heap [] := va_S.rf
  have hl : lv_has ls 4 [(0, .ref (ad G k)), (1, .int 3)] := hl
  refine lv_iconst (v := 0) hx hb dX3_mostOf_0 (by decide) ?_
  refine lv_istore_n (lv' := [(2, .int 0), (0, .ref (ad G k)), (1, .int 3)]) hx hb dX3_mostOf_1 rfl hl (by decide) rfl (fun ls_1 hl_2 => ?_)
  refine lv_iconst (v := 1) hx hb dX3_mostOf_2 (by decide) ?_
  refine lv_istore_n (lv' := [(3, .int 1), (2, .int 0), (0, .ref (ad G k)), (1, .int 3)]) hx hb dX3_mostOf_3 rfl hl_2 (by decide) rfl (fun ls_3 hl_4 => ?_)
  refine lv_iload_n hx hb dX3_mostOf_4 rfl (lv_at hl_4 0 rfl) ?_
  refine lv_iload_n hx hb dX3_mostOf_5 rfl (lv_at hl_4 3 rfl) ?_
  refine lv_icmp_ge (tgt := 37) hx hb dX3_mostOf_6 (by decide) (fun h9 => absurd h9 (by decide)) (fun _ => ?_)
  refine lv_iload_n hx hb dX3_mostOf_9 rfl (lv_at hl_4 0 rfl) ?_
  refine lv_iconst (v := 4) hx hb dX3_mostOf_10 (by decide) ?_
  refine lv_icmp_ge (tgt := 37) hx hb dX3_mostOf_11 (by decide) (fun h9 => absurd h9 (by decide)) (fun _ => ?_)
  refine lv_aload_n hx hb dX3_mostOf_14 rfl (lv_at hl_4 2 rfl) ?_
  refine g_masses C hW hm (hwc hwX3) (mc qw_127) dX3_mostOf_15 ?_
  refine lv_iload_n hx hb dX3_mostOf_18 rfl (lv_at hl_4 0 rfl) ?_
  refine g_mld C hW hm 1 (by decide) (vlit (by decide)) dX3_mostOf_19 ?_
  refine lv_aload_n hx hb dX3_mostOf_20 rfl (lv_at hl_4 2 rfl) ?_
  refine g_masses C hW hm (hwc hwX3) (mc qw_127) dX3_mostOf_21 ?_
  refine lv_iload_n hx hb dX3_mostOf_24 rfl (lv_at hl_4 1 rfl) ?_
  refine g_mld C hW hm 0 (by decide) (vlit (by decide)) dX3_mostOf_25 ?_
  refine lv_icmp_le (tgt := 31) hx hb dX3_mostOf_26 (by decide) (fun b_5 => ?_) (fun b_5 => ?_)
  · refine lv_iinc (v := 2) (lv' := [(3, .int 2), (2, .int 0), (0, .ref (ad G k)), (1, .int 3)]) hx hb dX3_mostOf_31 hl_4 (k := 0) rfl (by decide) (by decide) rfl (fun ls_6 hl_7 => ?_)
    refine lv_goto (tgt := 4) hx hb dX3_mostOf_34 (by decide) ?_
    refine lv_iload_n hx hb dX3_mostOf_4 rfl (lv_at hl_7 0 rfl) ?_
    refine lv_iload_n hx hb dX3_mostOf_5 rfl (lv_at hl_7 3 rfl) ?_
    refine lv_icmp_ge (tgt := 37) hx hb dX3_mostOf_6 (by decide) (fun h9 => absurd h9 (by decide)) (fun _ => ?_)
    refine lv_iload_n hx hb dX3_mostOf_9 rfl (lv_at hl_7 0 rfl) ?_
    refine lv_iconst (v := 4) hx hb dX3_mostOf_10 (by decide) ?_
    refine lv_icmp_ge (tgt := 37) hx hb dX3_mostOf_11 (by decide) (fun h9 => absurd h9 (by decide)) (fun _ => ?_)
    refine lv_aload_n hx hb dX3_mostOf_14 rfl (lv_at hl_7 2 rfl) ?_
    refine g_masses C hW hm (hwc hwX3) (mc qw_127) dX3_mostOf_15 ?_
    refine lv_iload_n hx hb dX3_mostOf_18 rfl (lv_at hl_7 0 rfl) ?_
    refine g_mld C hW hm 2 (by decide) (vlit (by decide)) dX3_mostOf_19 ?_
    refine lv_aload_n hx hb dX3_mostOf_20 rfl (lv_at hl_7 2 rfl) ?_
    refine g_masses C hW hm (hwc hwX3) (mc qw_127) dX3_mostOf_21 ?_
    refine lv_iload_n hx hb dX3_mostOf_24 rfl (lv_at hl_7 1 rfl) ?_
    refine g_mld C hW hm 0 (by decide) (vlit (by decide)) dX3_mostOf_25 ?_
    refine lv_icmp_le (tgt := 31) hx hb dX3_mostOf_26 (by decide) (fun b_8 => ?_) (fun b_8 => ?_)
    · refine lv_iinc (v := 3) (lv' := [(3, .int 3), (2, .int 0), (0, .ref (ad G k)), (1, .int 3)]) hx hb dX3_mostOf_31 hl_7 (k := 0) rfl (by decide) (by decide) rfl (fun ls_9 hl_10 => ?_)
      refine lv_goto (tgt := 4) hx hb dX3_mostOf_34 (by decide) ?_
      refine lv_iload_n hx hb dX3_mostOf_4 rfl (lv_at hl_10 0 rfl) ?_
      refine lv_iload_n hx hb dX3_mostOf_5 rfl (lv_at hl_10 3 rfl) ?_
      refine lv_icmp_ge (tgt := 37) hx hb dX3_mostOf_6 (by decide) (fun _ => ?_) (fun h9 => absurd h9 (by decide))
      refine lv_iload_n hx hb dX3_mostOf_37 rfl (lv_at hl_10 1 rfl) ?_
      exact g_iret C hr hlk hW hS dX3_mostOf_38 (by exact ⟨by simp only [best3, best3, stepB, b_5, b_8, if_true, if_false]; rfl, rfl⟩)
    · refine lv_iload_n hx hb dX3_mostOf_29 rfl (lv_at hl_7 0 rfl) ?_
      refine lv_istore_n (lv' := [(2, .int 2), (3, .int 2), (0, .ref (ad G k)), (1, .int 3)]) hx hb dX3_mostOf_30 rfl hl_7 (by decide) rfl (fun ls_11 hl_12 => ?_)
      refine lv_iinc (v := 3) (lv' := [(3, .int 3), (2, .int 2), (0, .ref (ad G k)), (1, .int 3)]) hx hb dX3_mostOf_31 hl_12 (k := 1) rfl (by decide) (by decide) rfl (fun ls_13 hl_14 => ?_)
      refine lv_goto (tgt := 4) hx hb dX3_mostOf_34 (by decide) ?_
      refine lv_iload_n hx hb dX3_mostOf_4 rfl (lv_at hl_14 0 rfl) ?_
      refine lv_iload_n hx hb dX3_mostOf_5 rfl (lv_at hl_14 3 rfl) ?_
      refine lv_icmp_ge (tgt := 37) hx hb dX3_mostOf_6 (by decide) (fun _ => ?_) (fun h9 => absurd h9 (by decide))
      refine lv_iload_n hx hb dX3_mostOf_37 rfl (lv_at hl_14 1 rfl) ?_
      exact g_iret C hr hlk hW hS dX3_mostOf_38 (by exact ⟨by simp only [best3, best3, stepB, b_5, b_8, if_true, if_false]; rfl, rfl⟩)
  · refine lv_iload_n hx hb dX3_mostOf_29 rfl (lv_at hl_4 0 rfl) ?_
    refine lv_istore_n (lv' := [(2, .int 1), (3, .int 1), (0, .ref (ad G k)), (1, .int 3)]) hx hb dX3_mostOf_30 rfl hl_4 (by decide) rfl (fun ls_15 hl_16 => ?_)
    refine lv_iinc (v := 2) (lv' := [(3, .int 2), (2, .int 1), (0, .ref (ad G k)), (1, .int 3)]) hx hb dX3_mostOf_31 hl_16 (k := 1) rfl (by decide) (by decide) rfl (fun ls_17 hl_18 => ?_)
    refine lv_goto (tgt := 4) hx hb dX3_mostOf_34 (by decide) ?_
    refine lv_iload_n hx hb dX3_mostOf_4 rfl (lv_at hl_18 0 rfl) ?_
    refine lv_iload_n hx hb dX3_mostOf_5 rfl (lv_at hl_18 3 rfl) ?_
    refine lv_icmp_ge (tgt := 37) hx hb dX3_mostOf_6 (by decide) (fun h9 => absurd h9 (by decide)) (fun _ => ?_)
    refine lv_iload_n hx hb dX3_mostOf_9 rfl (lv_at hl_18 0 rfl) ?_
    refine lv_iconst (v := 4) hx hb dX3_mostOf_10 (by decide) ?_
    refine lv_icmp_ge (tgt := 37) hx hb dX3_mostOf_11 (by decide) (fun h9 => absurd h9 (by decide)) (fun _ => ?_)
    refine lv_aload_n hx hb dX3_mostOf_14 rfl (lv_at hl_18 2 rfl) ?_
    refine g_masses C hW hm (hwc hwX3) (mc qw_127) dX3_mostOf_15 ?_
    refine lv_iload_n hx hb dX3_mostOf_18 rfl (lv_at hl_18 0 rfl) ?_
    refine g_mld C hW hm 2 (by decide) (vlit (by decide)) dX3_mostOf_19 ?_
    refine lv_aload_n hx hb dX3_mostOf_20 rfl (lv_at hl_18 2 rfl) ?_
    refine g_masses C hW hm (hwc hwX3) (mc qw_127) dX3_mostOf_21 ?_
    refine lv_iload_n hx hb dX3_mostOf_24 rfl (lv_at hl_18 1 rfl) ?_
    refine g_mld C hW hm 1 (by decide) (vlit (by decide)) dX3_mostOf_25 ?_
    refine lv_icmp_le (tgt := 31) hx hb dX3_mostOf_26 (by decide) (fun b_19 => ?_) (fun b_19 => ?_)
    · refine lv_iinc (v := 3) (lv' := [(3, .int 3), (2, .int 1), (0, .ref (ad G k)), (1, .int 3)]) hx hb dX3_mostOf_31 hl_18 (k := 0) rfl (by decide) (by decide) rfl (fun ls_20 hl_21 => ?_)
      refine lv_goto (tgt := 4) hx hb dX3_mostOf_34 (by decide) ?_
      refine lv_iload_n hx hb dX3_mostOf_4 rfl (lv_at hl_21 0 rfl) ?_
      refine lv_iload_n hx hb dX3_mostOf_5 rfl (lv_at hl_21 3 rfl) ?_
      refine lv_icmp_ge (tgt := 37) hx hb dX3_mostOf_6 (by decide) (fun _ => ?_) (fun h9 => absurd h9 (by decide))
      refine lv_iload_n hx hb dX3_mostOf_37 rfl (lv_at hl_21 1 rfl) ?_
      exact g_iret C hr hlk hW hS dX3_mostOf_38 (by exact ⟨by simp only [best3, best3, stepB, b_5, b_19, if_true, if_false]; rfl, rfl⟩)
    · refine lv_iload_n hx hb dX3_mostOf_29 rfl (lv_at hl_18 0 rfl) ?_
      refine lv_istore_n (lv' := [(2, .int 2), (3, .int 2), (0, .ref (ad G k)), (1, .int 3)]) hx hb dX3_mostOf_30 rfl hl_18 (by decide) rfl (fun ls_22 hl_23 => ?_)
      refine lv_iinc (v := 3) (lv' := [(3, .int 3), (2, .int 2), (0, .ref (ad G k)), (1, .int 3)]) hx hb dX3_mostOf_31 hl_23 (k := 1) rfl (by decide) (by decide) rfl (fun ls_24 hl_25 => ?_)
      refine lv_goto (tgt := 4) hx hb dX3_mostOf_34 (by decide) ?_
      refine lv_iload_n hx hb dX3_mostOf_4 rfl (lv_at hl_25 0 rfl) ?_
      refine lv_iload_n hx hb dX3_mostOf_5 rfl (lv_at hl_25 3 rfl) ?_
      refine lv_icmp_ge (tgt := 37) hx hb dX3_mostOf_6 (by decide) (fun _ => ?_) (fun h9 => absurd h9 (by decide))
      refine lv_iload_n hx hb dX3_mostOf_37 rfl (lv_at hl_25 1 rfl) ?_
      exact g_iret C hr hlk hW hS dX3_mostOf_38 (by exact ⟨by simp only [best3, best3, stepB, b_5, b_19, if_true, if_false]; rfl, rfl⟩)

set_option maxHeartbeats 4000000 in
set_option maxRecDepth 100000 in
theorem cX3_mostOf4_ok (l : Launch) (G : GT) (X : St) (k a r i : Nat) (hm : Mix G k a r i) : MetI l G yX3_mostOf (wsG yX3_mostOf cX3_mostOf 4 (some .int)) (rmz 0 0) [.ref (ad G k), .int 4] X (fun res Y => res = nI (best4 (X.1 r) i) ∧ Y = X) := by
  refine g_met (cc := cX3_mostOf) (maxL := 4) (ret := (some .int)) (by decide) rfl (Nat.le_of_ble_eq_true rfl) ?_
  intro p e s m below meth c ls C hr hlk hnm hW hl
  have hx := C.1.1
  have hb := C.1.2.1
  have hS : va_S (Ab G) s.heap s.heap [] := va_S.rf
  have hl : lv_has ls 4 [(0, .ref (ad G k)), (1, .int 4)] := hl
  refine lv_iconst (v := 0) hx hb dX3_mostOf_0 (by decide) ?_
  refine lv_istore_n (lv' := [(2, .int 0), (0, .ref (ad G k)), (1, .int 4)]) hx hb dX3_mostOf_1 rfl hl (by decide) rfl (fun ls_1 hl_2 => ?_)
  refine lv_iconst (v := 1) hx hb dX3_mostOf_2 (by decide) ?_
  refine lv_istore_n (lv' := [(3, .int 1), (2, .int 0), (0, .ref (ad G k)), (1, .int 4)]) hx hb dX3_mostOf_3 rfl hl_2 (by decide) rfl (fun ls_3 hl_4 => ?_)
  refine lv_iload_n hx hb dX3_mostOf_4 rfl (lv_at hl_4 0 rfl) ?_
  refine lv_iload_n hx hb dX3_mostOf_5 rfl (lv_at hl_4 3 rfl) ?_
  refine lv_icmp_ge (tgt := 37) hx hb dX3_mostOf_6 (by decide) (fun h9 => absurd h9 (by decide)) (fun _ => ?_)
  refine lv_iload_n hx hb dX3_mostOf_9 rfl (lv_at hl_4 0 rfl) ?_
  refine lv_iconst (v := 4) hx hb dX3_mostOf_10 (by decide) ?_
  refine lv_icmp_ge (tgt := 37) hx hb dX3_mostOf_11 (by decide) (fun h9 => absurd h9 (by decide)) (fun _ => ?_)
  refine lv_aload_n hx hb dX3_mostOf_14 rfl (lv_at hl_4 2 rfl) ?_
  refine g_masses C hW hm (hwc hwX3) (mc qw_127) dX3_mostOf_15 ?_
  refine lv_iload_n hx hb dX3_mostOf_18 rfl (lv_at hl_4 0 rfl) ?_
  refine g_mld C hW hm 1 (by decide) (vlit (by decide)) dX3_mostOf_19 ?_
  refine lv_aload_n hx hb dX3_mostOf_20 rfl (lv_at hl_4 2 rfl) ?_
  refine g_masses C hW hm (hwc hwX3) (mc qw_127) dX3_mostOf_21 ?_
  refine lv_iload_n hx hb dX3_mostOf_24 rfl (lv_at hl_4 1 rfl) ?_
  refine g_mld C hW hm 0 (by decide) (vlit (by decide)) dX3_mostOf_25 ?_
  refine lv_icmp_le (tgt := 31) hx hb dX3_mostOf_26 (by decide) (fun b_5 => ?_) (fun b_5 => ?_)
  · refine lv_iinc (v := 2) (lv' := [(3, .int 2), (2, .int 0), (0, .ref (ad G k)), (1, .int 4)]) hx hb dX3_mostOf_31 hl_4 (k := 0) rfl (by decide) (by decide) rfl (fun ls_6 hl_7 => ?_)
    refine lv_goto (tgt := 4) hx hb dX3_mostOf_34 (by decide) ?_
    refine lv_iload_n hx hb dX3_mostOf_4 rfl (lv_at hl_7 0 rfl) ?_
    refine lv_iload_n hx hb dX3_mostOf_5 rfl (lv_at hl_7 3 rfl) ?_
    refine lv_icmp_ge (tgt := 37) hx hb dX3_mostOf_6 (by decide) (fun h9 => absurd h9 (by decide)) (fun _ => ?_)
    refine lv_iload_n hx hb dX3_mostOf_9 rfl (lv_at hl_7 0 rfl) ?_
    refine lv_iconst (v := 4) hx hb dX3_mostOf_10 (by decide) ?_
    refine lv_icmp_ge (tgt := 37) hx hb dX3_mostOf_11 (by decide) (fun h9 => absurd h9 (by decide)) (fun _ => ?_)
    refine lv_aload_n hx hb dX3_mostOf_14 rfl (lv_at hl_7 2 rfl) ?_
    refine g_masses C hW hm (hwc hwX3) (mc qw_127) dX3_mostOf_15 ?_
    refine lv_iload_n hx hb dX3_mostOf_18 rfl (lv_at hl_7 0 rfl) ?_
    refine g_mld C hW hm 2 (by decide) (vlit (by decide)) dX3_mostOf_19 ?_
    refine lv_aload_n hx hb dX3_mostOf_20 rfl (lv_at hl_7 2 rfl) ?_
    refine g_masses C hW hm (hwc hwX3) (mc qw_127) dX3_mostOf_21 ?_
    refine lv_iload_n hx hb dX3_mostOf_24 rfl (lv_at hl_7 1 rfl) ?_
    refine g_mld C hW hm 0 (by decide) (vlit (by decide)) dX3_mostOf_25 ?_
    refine lv_icmp_le (tgt := 31) hx hb dX3_mostOf_26 (by decide) (fun b_8 => ?_) (fun b_8 => ?_)
    · refine lv_iinc (v := 3) (lv' := [(3, .int 3), (2, .int 0), (0, .ref (ad G k)), (1, .int 4)]) hx hb dX3_mostOf_31 hl_7 (k := 0) rfl (by decide) (by decide) rfl (fun ls_9 hl_10 => ?_)
      refine lv_goto (tgt := 4) hx hb dX3_mostOf_34 (by decide) ?_
      refine lv_iload_n hx hb dX3_mostOf_4 rfl (lv_at hl_10 0 rfl) ?_
      refine lv_iload_n hx hb dX3_mostOf_5 rfl (lv_at hl_10 3 rfl) ?_
      refine lv_icmp_ge (tgt := 37) hx hb dX3_mostOf_6 (by decide) (fun h9 => absurd h9 (by decide)) (fun _ => ?_)
      refine lv_iload_n hx hb dX3_mostOf_9 rfl (lv_at hl_10 0 rfl) ?_
      refine lv_iconst (v := 4) hx hb dX3_mostOf_10 (by decide) ?_
      refine lv_icmp_ge (tgt := 37) hx hb dX3_mostOf_11 (by decide) (fun h9 => absurd h9 (by decide)) (fun _ => ?_)
      refine lv_aload_n hx hb dX3_mostOf_14 rfl (lv_at hl_10 2 rfl) ?_
      refine g_masses C hW hm (hwc hwX3) (mc qw_127) dX3_mostOf_15 ?_
      refine lv_iload_n hx hb dX3_mostOf_18 rfl (lv_at hl_10 0 rfl) ?_
      refine g_mld C hW hm 3 (by decide) (vlit (by decide)) dX3_mostOf_19 ?_
      refine lv_aload_n hx hb dX3_mostOf_20 rfl (lv_at hl_10 2 rfl) ?_
      refine g_masses C hW hm (hwc hwX3) (mc qw_127) dX3_mostOf_21 ?_
      refine lv_iload_n hx hb dX3_mostOf_24 rfl (lv_at hl_10 1 rfl) ?_
      refine g_mld C hW hm 0 (by decide) (vlit (by decide)) dX3_mostOf_25 ?_
      refine lv_icmp_le (tgt := 31) hx hb dX3_mostOf_26 (by decide) (fun b_11 => ?_) (fun b_11 => ?_)
      · refine lv_iinc (v := 4) (lv' := [(3, .int 4), (2, .int 0), (0, .ref (ad G k)), (1, .int 4)]) hx hb dX3_mostOf_31 hl_10 (k := 0) rfl (by decide) (by decide) rfl (fun ls_12 hl_13 => ?_)
        refine lv_goto (tgt := 4) hx hb dX3_mostOf_34 (by decide) ?_
        refine lv_iload_n hx hb dX3_mostOf_4 rfl (lv_at hl_13 0 rfl) ?_
        refine lv_iload_n hx hb dX3_mostOf_5 rfl (lv_at hl_13 3 rfl) ?_
        refine lv_icmp_ge (tgt := 37) hx hb dX3_mostOf_6 (by decide) (fun _ => ?_) (fun h9 => absurd h9 (by decide))
        refine lv_iload_n hx hb dX3_mostOf_37 rfl (lv_at hl_13 1 rfl) ?_
        exact g_iret C hr hlk hW hS dX3_mostOf_38 (by exact ⟨by simp only [best3, best4, stepB, b_5, b_8, b_11, if_true, if_false]; rfl, rfl⟩)
      · refine lv_iload_n hx hb dX3_mostOf_29 rfl (lv_at hl_10 0 rfl) ?_
        refine lv_istore_n (lv' := [(2, .int 3), (3, .int 3), (0, .ref (ad G k)), (1, .int 4)]) hx hb dX3_mostOf_30 rfl hl_10 (by decide) rfl (fun ls_14 hl_15 => ?_)
        refine lv_iinc (v := 4) (lv' := [(3, .int 4), (2, .int 3), (0, .ref (ad G k)), (1, .int 4)]) hx hb dX3_mostOf_31 hl_15 (k := 1) rfl (by decide) (by decide) rfl (fun ls_16 hl_17 => ?_)
        refine lv_goto (tgt := 4) hx hb dX3_mostOf_34 (by decide) ?_
        refine lv_iload_n hx hb dX3_mostOf_4 rfl (lv_at hl_17 0 rfl) ?_
        refine lv_iload_n hx hb dX3_mostOf_5 rfl (lv_at hl_17 3 rfl) ?_
        refine lv_icmp_ge (tgt := 37) hx hb dX3_mostOf_6 (by decide) (fun _ => ?_) (fun h9 => absurd h9 (by decide))
        refine lv_iload_n hx hb dX3_mostOf_37 rfl (lv_at hl_17 1 rfl) ?_
        exact g_iret C hr hlk hW hS dX3_mostOf_38 (by exact ⟨by simp only [best3, best4, stepB, b_5, b_8, b_11, if_true, if_false]; rfl, rfl⟩)
    · refine lv_iload_n hx hb dX3_mostOf_29 rfl (lv_at hl_7 0 rfl) ?_
      refine lv_istore_n (lv' := [(2, .int 2), (3, .int 2), (0, .ref (ad G k)), (1, .int 4)]) hx hb dX3_mostOf_30 rfl hl_7 (by decide) rfl (fun ls_18 hl_19 => ?_)
      refine lv_iinc (v := 3) (lv' := [(3, .int 3), (2, .int 2), (0, .ref (ad G k)), (1, .int 4)]) hx hb dX3_mostOf_31 hl_19 (k := 1) rfl (by decide) (by decide) rfl (fun ls_20 hl_21 => ?_)
      refine lv_goto (tgt := 4) hx hb dX3_mostOf_34 (by decide) ?_
      refine lv_iload_n hx hb dX3_mostOf_4 rfl (lv_at hl_21 0 rfl) ?_
      refine lv_iload_n hx hb dX3_mostOf_5 rfl (lv_at hl_21 3 rfl) ?_
      refine lv_icmp_ge (tgt := 37) hx hb dX3_mostOf_6 (by decide) (fun h9 => absurd h9 (by decide)) (fun _ => ?_)
      refine lv_iload_n hx hb dX3_mostOf_9 rfl (lv_at hl_21 0 rfl) ?_
      refine lv_iconst (v := 4) hx hb dX3_mostOf_10 (by decide) ?_
      refine lv_icmp_ge (tgt := 37) hx hb dX3_mostOf_11 (by decide) (fun h9 => absurd h9 (by decide)) (fun _ => ?_)
      refine lv_aload_n hx hb dX3_mostOf_14 rfl (lv_at hl_21 2 rfl) ?_
      refine g_masses C hW hm (hwc hwX3) (mc qw_127) dX3_mostOf_15 ?_
      refine lv_iload_n hx hb dX3_mostOf_18 rfl (lv_at hl_21 0 rfl) ?_
      refine g_mld C hW hm 3 (by decide) (vlit (by decide)) dX3_mostOf_19 ?_
      refine lv_aload_n hx hb dX3_mostOf_20 rfl (lv_at hl_21 2 rfl) ?_
      refine g_masses C hW hm (hwc hwX3) (mc qw_127) dX3_mostOf_21 ?_
      refine lv_iload_n hx hb dX3_mostOf_24 rfl (lv_at hl_21 1 rfl) ?_
      refine g_mld C hW hm 2 (by decide) (vlit (by decide)) dX3_mostOf_25 ?_
      refine lv_icmp_le (tgt := 31) hx hb dX3_mostOf_26 (by decide) (fun b_22 => ?_) (fun b_22 => ?_)
      · refine lv_iinc (v := 4) (lv' := [(3, .int 4), (2, .int 2), (0, .ref (ad G k)), (1, .int 4)]) hx hb dX3_mostOf_31 hl_21 (k := 0) rfl (by decide) (by decide) rfl (fun ls_23 hl_24 => ?_)
        refine lv_goto (tgt := 4) hx hb dX3_mostOf_34 (by decide) ?_
        refine lv_iload_n hx hb dX3_mostOf_4 rfl (lv_at hl_24 0 rfl) ?_
        refine lv_iload_n hx hb dX3_mostOf_5 rfl (lv_at hl_24 3 rfl) ?_
        refine lv_icmp_ge (tgt := 37) hx hb dX3_mostOf_6 (by decide) (fun _ => ?_) (fun h9 => absurd h9 (by decide))
        refine lv_iload_n hx hb dX3_mostOf_37 rfl (lv_at hl_24 1 rfl) ?_
        exact g_iret C hr hlk hW hS dX3_mostOf_38 (by exact ⟨by simp only [best3, best4, stepB, b_5, b_8, b_22, if_true, if_false]; rfl, rfl⟩)
      · refine lv_iload_n hx hb dX3_mostOf_29 rfl (lv_at hl_21 0 rfl) ?_
        refine lv_istore_n (lv' := [(2, .int 3), (3, .int 3), (0, .ref (ad G k)), (1, .int 4)]) hx hb dX3_mostOf_30 rfl hl_21 (by decide) rfl (fun ls_25 hl_26 => ?_)
        refine lv_iinc (v := 4) (lv' := [(3, .int 4), (2, .int 3), (0, .ref (ad G k)), (1, .int 4)]) hx hb dX3_mostOf_31 hl_26 (k := 1) rfl (by decide) (by decide) rfl (fun ls_27 hl_28 => ?_)
        refine lv_goto (tgt := 4) hx hb dX3_mostOf_34 (by decide) ?_
        refine lv_iload_n hx hb dX3_mostOf_4 rfl (lv_at hl_28 0 rfl) ?_
        refine lv_iload_n hx hb dX3_mostOf_5 rfl (lv_at hl_28 3 rfl) ?_
        refine lv_icmp_ge (tgt := 37) hx hb dX3_mostOf_6 (by decide) (fun _ => ?_) (fun h9 => absurd h9 (by decide))
        refine lv_iload_n hx hb dX3_mostOf_37 rfl (lv_at hl_28 1 rfl) ?_
        exact g_iret C hr hlk hW hS dX3_mostOf_38 (by exact ⟨by simp only [best3, best4, stepB, b_5, b_8, b_22, if_true, if_false]; rfl, rfl⟩)
  · refine lv_iload_n hx hb dX3_mostOf_29 rfl (lv_at hl_4 0 rfl) ?_
    refine lv_istore_n (lv' := [(2, .int 1), (3, .int 1), (0, .ref (ad G k)), (1, .int 4)]) hx hb dX3_mostOf_30 rfl hl_4 (by decide) rfl (fun ls_29 hl_30 => ?_)
    refine lv_iinc (v := 2) (lv' := [(3, .int 2), (2, .int 1), (0, .ref (ad G k)), (1, .int 4)]) hx hb dX3_mostOf_31 hl_30 (k := 1) rfl (by decide) (by decide) rfl (fun ls_31 hl_32 => ?_)
    refine lv_goto (tgt := 4) hx hb dX3_mostOf_34 (by decide) ?_
    refine lv_iload_n hx hb dX3_mostOf_4 rfl (lv_at hl_32 0 rfl) ?_
    refine lv_iload_n hx hb dX3_mostOf_5 rfl (lv_at hl_32 3 rfl) ?_
    refine lv_icmp_ge (tgt := 37) hx hb dX3_mostOf_6 (by decide) (fun h9 => absurd h9 (by decide)) (fun _ => ?_)
    refine lv_iload_n hx hb dX3_mostOf_9 rfl (lv_at hl_32 0 rfl) ?_
    refine lv_iconst (v := 4) hx hb dX3_mostOf_10 (by decide) ?_
    refine lv_icmp_ge (tgt := 37) hx hb dX3_mostOf_11 (by decide) (fun h9 => absurd h9 (by decide)) (fun _ => ?_)
    refine lv_aload_n hx hb dX3_mostOf_14 rfl (lv_at hl_32 2 rfl) ?_
    refine g_masses C hW hm (hwc hwX3) (mc qw_127) dX3_mostOf_15 ?_
    refine lv_iload_n hx hb dX3_mostOf_18 rfl (lv_at hl_32 0 rfl) ?_
    refine g_mld C hW hm 2 (by decide) (vlit (by decide)) dX3_mostOf_19 ?_
    refine lv_aload_n hx hb dX3_mostOf_20 rfl (lv_at hl_32 2 rfl) ?_
    refine g_masses C hW hm (hwc hwX3) (mc qw_127) dX3_mostOf_21 ?_
    refine lv_iload_n hx hb dX3_mostOf_24 rfl (lv_at hl_32 1 rfl) ?_
    refine g_mld C hW hm 1 (by decide) (vlit (by decide)) dX3_mostOf_25 ?_
    refine lv_icmp_le (tgt := 31) hx hb dX3_mostOf_26 (by decide) (fun b_33 => ?_) (fun b_33 => ?_)
    · refine lv_iinc (v := 3) (lv' := [(3, .int 3), (2, .int 1), (0, .ref (ad G k)), (1, .int 4)]) hx hb dX3_mostOf_31 hl_32 (k := 0) rfl (by decide) (by decide) rfl (fun ls_34 hl_35 => ?_)
      refine lv_goto (tgt := 4) hx hb dX3_mostOf_34 (by decide) ?_
      refine lv_iload_n hx hb dX3_mostOf_4 rfl (lv_at hl_35 0 rfl) ?_
      refine lv_iload_n hx hb dX3_mostOf_5 rfl (lv_at hl_35 3 rfl) ?_
      refine lv_icmp_ge (tgt := 37) hx hb dX3_mostOf_6 (by decide) (fun h9 => absurd h9 (by decide)) (fun _ => ?_)
      refine lv_iload_n hx hb dX3_mostOf_9 rfl (lv_at hl_35 0 rfl) ?_
      refine lv_iconst (v := 4) hx hb dX3_mostOf_10 (by decide) ?_
      refine lv_icmp_ge (tgt := 37) hx hb dX3_mostOf_11 (by decide) (fun h9 => absurd h9 (by decide)) (fun _ => ?_)
      refine lv_aload_n hx hb dX3_mostOf_14 rfl (lv_at hl_35 2 rfl) ?_
      refine g_masses C hW hm (hwc hwX3) (mc qw_127) dX3_mostOf_15 ?_
      refine lv_iload_n hx hb dX3_mostOf_18 rfl (lv_at hl_35 0 rfl) ?_
      refine g_mld C hW hm 3 (by decide) (vlit (by decide)) dX3_mostOf_19 ?_
      refine lv_aload_n hx hb dX3_mostOf_20 rfl (lv_at hl_35 2 rfl) ?_
      refine g_masses C hW hm (hwc hwX3) (mc qw_127) dX3_mostOf_21 ?_
      refine lv_iload_n hx hb dX3_mostOf_24 rfl (lv_at hl_35 1 rfl) ?_
      refine g_mld C hW hm 1 (by decide) (vlit (by decide)) dX3_mostOf_25 ?_
      refine lv_icmp_le (tgt := 31) hx hb dX3_mostOf_26 (by decide) (fun b_36 => ?_) (fun b_36 => ?_)
      · refine lv_iinc (v := 4) (lv' := [(3, .int 4), (2, .int 1), (0, .ref (ad G k)), (1, .int 4)]) hx hb dX3_mostOf_31 hl_35 (k := 0) rfl (by decide) (by decide) rfl (fun ls_37 hl_38 => ?_)
        refine lv_goto (tgt := 4) hx hb dX3_mostOf_34 (by decide) ?_
        refine lv_iload_n hx hb dX3_mostOf_4 rfl (lv_at hl_38 0 rfl) ?_
        refine lv_iload_n hx hb dX3_mostOf_5 rfl (lv_at hl_38 3 rfl) ?_
        refine lv_icmp_ge (tgt := 37) hx hb dX3_mostOf_6 (by decide) (fun _ => ?_) (fun h9 => absurd h9 (by decide))
        refine lv_iload_n hx hb dX3_mostOf_37 rfl (lv_at hl_38 1 rfl) ?_
        exact g_iret C hr hlk hW hS dX3_mostOf_38 (by exact ⟨by simp only [best3, best4, stepB, b_5, b_33, b_36, if_true, if_false]; rfl, rfl⟩)
      · refine lv_iload_n hx hb dX3_mostOf_29 rfl (lv_at hl_35 0 rfl) ?_
        refine lv_istore_n (lv' := [(2, .int 3), (3, .int 3), (0, .ref (ad G k)), (1, .int 4)]) hx hb dX3_mostOf_30 rfl hl_35 (by decide) rfl (fun ls_39 hl_40 => ?_)
        refine lv_iinc (v := 4) (lv' := [(3, .int 4), (2, .int 3), (0, .ref (ad G k)), (1, .int 4)]) hx hb dX3_mostOf_31 hl_40 (k := 1) rfl (by decide) (by decide) rfl (fun ls_41 hl_42 => ?_)
        refine lv_goto (tgt := 4) hx hb dX3_mostOf_34 (by decide) ?_
        refine lv_iload_n hx hb dX3_mostOf_4 rfl (lv_at hl_42 0 rfl) ?_
        refine lv_iload_n hx hb dX3_mostOf_5 rfl (lv_at hl_42 3 rfl) ?_
        refine lv_icmp_ge (tgt := 37) hx hb dX3_mostOf_6 (by decide) (fun _ => ?_) (fun h9 => absurd h9 (by decide))
        refine lv_iload_n hx hb dX3_mostOf_37 rfl (lv_at hl_42 1 rfl) ?_
        exact g_iret C hr hlk hW hS dX3_mostOf_38 (by exact ⟨by simp only [best3, best4, stepB, b_5, b_33, b_36, if_true, if_false]; rfl, rfl⟩)
    · refine lv_iload_n hx hb dX3_mostOf_29 rfl (lv_at hl_32 0 rfl) ?_
      refine lv_istore_n (lv' := [(2, .int 2), (3, .int 2), (0, .ref (ad G k)), (1, .int 4)]) hx hb dX3_mostOf_30 rfl hl_32 (by decide) rfl (fun ls_43 hl_44 => ?_)
      refine lv_iinc (v := 3) (lv' := [(3, .int 3), (2, .int 2), (0, .ref (ad G k)), (1, .int 4)]) hx hb dX3_mostOf_31 hl_44 (k := 1) rfl (by decide) (by decide) rfl (fun ls_45 hl_46 => ?_)
      refine lv_goto (tgt := 4) hx hb dX3_mostOf_34 (by decide) ?_
      refine lv_iload_n hx hb dX3_mostOf_4 rfl (lv_at hl_46 0 rfl) ?_
      refine lv_iload_n hx hb dX3_mostOf_5 rfl (lv_at hl_46 3 rfl) ?_
      refine lv_icmp_ge (tgt := 37) hx hb dX3_mostOf_6 (by decide) (fun h9 => absurd h9 (by decide)) (fun _ => ?_)
      refine lv_iload_n hx hb dX3_mostOf_9 rfl (lv_at hl_46 0 rfl) ?_
      refine lv_iconst (v := 4) hx hb dX3_mostOf_10 (by decide) ?_
      refine lv_icmp_ge (tgt := 37) hx hb dX3_mostOf_11 (by decide) (fun h9 => absurd h9 (by decide)) (fun _ => ?_)
      refine lv_aload_n hx hb dX3_mostOf_14 rfl (lv_at hl_46 2 rfl) ?_
      refine g_masses C hW hm (hwc hwX3) (mc qw_127) dX3_mostOf_15 ?_
      refine lv_iload_n hx hb dX3_mostOf_18 rfl (lv_at hl_46 0 rfl) ?_
      refine g_mld C hW hm 3 (by decide) (vlit (by decide)) dX3_mostOf_19 ?_
      refine lv_aload_n hx hb dX3_mostOf_20 rfl (lv_at hl_46 2 rfl) ?_
      refine g_masses C hW hm (hwc hwX3) (mc qw_127) dX3_mostOf_21 ?_
      refine lv_iload_n hx hb dX3_mostOf_24 rfl (lv_at hl_46 1 rfl) ?_
      refine g_mld C hW hm 2 (by decide) (vlit (by decide)) dX3_mostOf_25 ?_
      refine lv_icmp_le (tgt := 31) hx hb dX3_mostOf_26 (by decide) (fun b_47 => ?_) (fun b_47 => ?_)
      · refine lv_iinc (v := 4) (lv' := [(3, .int 4), (2, .int 2), (0, .ref (ad G k)), (1, .int 4)]) hx hb dX3_mostOf_31 hl_46 (k := 0) rfl (by decide) (by decide) rfl (fun ls_48 hl_49 => ?_)
        refine lv_goto (tgt := 4) hx hb dX3_mostOf_34 (by decide) ?_
        refine lv_iload_n hx hb dX3_mostOf_4 rfl (lv_at hl_49 0 rfl) ?_
        refine lv_iload_n hx hb dX3_mostOf_5 rfl (lv_at hl_49 3 rfl) ?_
        refine lv_icmp_ge (tgt := 37) hx hb dX3_mostOf_6 (by decide) (fun _ => ?_) (fun h9 => absurd h9 (by decide))
        refine lv_iload_n hx hb dX3_mostOf_37 rfl (lv_at hl_49 1 rfl) ?_
        exact g_iret C hr hlk hW hS dX3_mostOf_38 (by exact ⟨by simp only [best3, best4, stepB, b_5, b_33, b_47, if_true, if_false]; rfl, rfl⟩)
      · refine lv_iload_n hx hb dX3_mostOf_29 rfl (lv_at hl_46 0 rfl) ?_
        refine lv_istore_n (lv' := [(2, .int 3), (3, .int 3), (0, .ref (ad G k)), (1, .int 4)]) hx hb dX3_mostOf_30 rfl hl_46 (by decide) rfl (fun ls_50 hl_51 => ?_)
        refine lv_iinc (v := 4) (lv' := [(3, .int 4), (2, .int 3), (0, .ref (ad G k)), (1, .int 4)]) hx hb dX3_mostOf_31 hl_51 (k := 1) rfl (by decide) (by decide) rfl (fun ls_52 hl_53 => ?_)
        refine lv_goto (tgt := 4) hx hb dX3_mostOf_34 (by decide) ?_
        refine lv_iload_n hx hb dX3_mostOf_4 rfl (lv_at hl_53 0 rfl) ?_
        refine lv_iload_n hx hb dX3_mostOf_5 rfl (lv_at hl_53 3 rfl) ?_
        refine lv_icmp_ge (tgt := 37) hx hb dX3_mostOf_6 (by decide) (fun _ => ?_) (fun h9 => absurd h9 (by decide))
        refine lv_iload_n hx hb dX3_mostOf_37 rfl (lv_at hl_53 1 rfl) ?_
        exact g_iret C hr hlk hW hS dX3_mostOf_38 (by exact ⟨by simp only [best3, best4, stepB, b_5, b_33, b_47, if_true, if_false]; rfl, rfl⟩)

set_option maxHeartbeats 4000000 in
set_option maxRecDepth 100000 in
theorem cX3_copyFrom_ok (l : Launch) (G : GT) (X : St) (k a r i : Nat) (hm : Mix G k a r i) (k2 a2 r2 i2 : Nat) (hm2 : Mix G k2 a2 r2 i2) : MetV l G yX3_copyFrom (wsG yX3_copyFrom cX3_copyFrom 2 none) (rmz 1 200) [.ref (ad G k), .ref (ad G k2)] X (fun Y => Y = setRow X r (cpyR (X.1 r) i (X.1 r2) i2)) := by
  refine g_met (cc := cX3_copyFrom) (maxL := 2) (ret := none) (by decide) rfl (Nat.le_of_ble_eq_true rfl) ?_
  intro p e s m below meth c ls C hr hlk hnm hW hl
  have hx := C.1.1
  have hb := C.1.2.1
  have hS : va_S (Ab G) s.heap s.heap [] := va_S.rf
  have hl : lv_has ls 2 [(0, .ref (ad G k)), (1, .ref (ad G k2))] := hl
  refine lv_aload_n hx hb dX3_copyFrom_0 rfl (lv_at hl 1 rfl) ?_
  refine g_masses C hW hm2 (hwc hwX3) (mc qw_127) dX3_copyFrom_1 ?_
  refine lv_iconst (v := 0) hx hb dX3_copyFrom_4 (by decide) ?_
  refine lv_aload_n hx hb dX3_copyFrom_5 rfl (lv_at hl 0 rfl) ?_
  refine g_masses C hW hm (hwc hwX3) (mc qw_127) dX3_copyFrom_6 ?_
  refine lv_iconst (v := 0) hx hb dX3_copyFrom_9 (by decide) ?_
  refine lv_iconst (v := 4) hx hb dX3_copyFrom_10 (by decide) ?_
  refine g_copy C hW hS hl.1 hm hm2 (mc qw_784) (Nat.le_of_ble_eq_true rfl) (Nat.le_of_ble_eq_true rfl) dX3_copyFrom_11 (fun H_1 locs_2 hW_3 hS_4 => ?_)
  replace hW_3 : Wd G (setRow X r (cpyR (X.1 r) i (X.1 r2) i2)) H_1 := hW_3
  exact g_vret C hr hlk hW_3 hS_4 dX3_copyFrom_14 (by rfl)

set_option maxHeartbeats 4000000 in
set_option maxRecDepth 100000 in
theorem cX3_movePart_ok (l : Launch) (G : GT) (X : St) (k a r i : Nat) (hm : Mix G k a r i) (x : Int32) (k2 a2 i2 : Nat) (hm2 : Mix G k2 a2 r i2) : MetV l G yX3_movePart (wsG yX3_movePart cX3_movePart 7 none) (rmz 1 23) [.ref (ad G k), .int x, .ref (ad G k2)] X (fun Y => Y = setRow X r (movePartR (X.1 r) i i2 x)) := by
  refine g_met (cc := cX3_movePart) (maxL := 7) (ret := none) (by decide) rfl (Nat.le_of_ble_eq_true rfl) ?_
  intro p e s m below meth c ls C hr hlk hnm hW hl
  have hx := C.1.1
  have hb := C.1.2.1
  have hS : va_S (Ab G) s.heap s.heap [] := va_S.rf
  have hl : lv_has ls 7 [(0, .ref (ad G k)), (1, .int x), (2, .ref (ad G k2))] := hl
  refine lv_aload_n hx hb dX3_movePart_0 rfl (lv_at hl 0 rfl) ?_
  refine g_calli (va_runV (As := []) (rest := []) C.1 (cX3_sum_ok l G X k a r i hm) (cwV 0 C.1.2.2.2.2 (gV qw_744 qw_338 qw_339 qw_73 qw_340) rfl rfl rfl (by decide +kernel) ⟨Nat.le_of_ble_eq_true rfl, Nat.le_of_ble_eq_true rfl⟩) (g_rMix C hW hS hm []) rfl rfl hl.1 rfl (lv_room (Nat.le_of_ble_eq_true rfl)) dX3_movePart_1 ⟨Nat.zero_le _, Nat.zero_le _⟩) hS (fun r_2 Y_3 H_4 locs_5 hW_6 hS_7 h_1 => ?_)
  obtain ⟨h_1, hy_8⟩ := h_1
  replace hy_8 := hy_8.symm
  subst hy_8
  subst h_1
  refine lv_topi (fun v_9 ev_9 => ?_)
  refine lv_istore_n (lv' := [(3, .int v_9), (0, .ref (ad G k)), (1, .int x), (2, .ref (ad G k2))]) hx hb dX3_movePart_4 rfl hl (by decide) rfl (fun ls_10 hl_11 => ?_)
  refine lv_iload_n hx hb dX3_movePart_5 rfl (lv_at hl_11 0 rfl) ?_
  refine lv_if_gt (tgt := 10) hx hb dX3_movePart_6 (by decide) (fun b_12 => ?_) (fun b_12 => ?_)
  · refine lv_iload_n hx hb dX3_movePart_10 rfl (lv_at hl_11 2 rfl) ?_
    refine lv_istore (lv' := [(4, .int x), (3, .int v_9), (0, .ref (ad G k)), (1, .int x), (2, .ref (ad G k2))]) hx hb dX3_movePart_11 hl_11 (by decide) rfl (fun ls_13 hl_14 => ?_)
    refine lv_iconst (v := 0) hx hb dX3_movePart_13 (by decide) ?_
    refine lv_istore (lv' := [(5, .int 0), (4, .int x), (3, .int v_9), (0, .ref (ad G k)), (1, .int x), (2, .ref (ad G k2))]) hx hb dX3_movePart_14 hl_14 (by decide) rfl (fun ls_15 hl_16 => ?_)
    refine lv_iload hx hb dX3_movePart_16 (lv_at hl_16 0 rfl) ?_
    refine lv_iconst (v := 4) hx hb dX3_movePart_18 (by decide) ?_
    refine lv_icmp_ge (tgt := 57) hx hb dX3_movePart_19 (by decide) (fun h9 => absurd h9 (by decide)) (fun _ => ?_)
    refine lv_aload_n hx hb dX3_movePart_22 rfl (lv_at hl_16 3 rfl) ?_
    refine g_masses C hW_6 hm (hwc hwX3) (mc qw_127) dX3_movePart_23 ?_
    refine lv_iload hx hb dX3_movePart_26 (lv_at hl_16 0 rfl) ?_
    refine g_mld C hW_6 hm 0 (by decide) (vlit (by decide)) dX3_movePart_28 ?_
    refine lv_iload_n hx hb dX3_movePart_29 rfl (lv_at hl_16 4 rfl) ?_
    refine lv_imul hx hb dX3_movePart_30 ?_
    refine lv_iload_n hx hb dX3_movePart_31 rfl (lv_at hl_16 2 rfl) ?_
    refine lv_idiv hx hb dX3_movePart_32 (fun q => by rw [q] at b_12; exact absurd b_12 (by decide)) ?_
    refine lv_topi (fun v_17 ev_17 => ?_)
    refine lv_istore (lv' := [(6, .int v_17), (5, .int 0), (4, .int x), (3, .int v_9), (0, .ref (ad G k)), (1, .int x), (2, .ref (ad G k2))]) hx hb dX3_movePart_33 hl_16 (by decide) rfl (fun ls_18 hl_19 => ?_)
    refine lv_aload_n hx hb dX3_movePart_35 rfl (lv_at hl_19 4 rfl) ?_
    refine lv_iload hx hb dX3_movePart_36 (lv_at hl_19 1 rfl) ?_
    refine lv_iload hx hb dX3_movePart_38 (lv_at hl_19 0 rfl) ?_
    refine lv_aload_n hx hb dX3_movePart_40 rfl (lv_at hl_19 6 rfl) ?_
    refine g_callv (va_runV (As := [.int 0, .int v_17, .ref (ad G k2)]) (rest := []) C.1 (cX3_move_ok l G X k a r i hm 0 (by decide) v_17 k2 a2 i2 hm2) (cwV 3 C.1.2.2.2.2 (gV qw_862 qw_852 qw_6 qw_73 qw_853) rfl rfl rfl (by decide +kernel) ⟨Nat.le_of_ble_eq_true rfl, Nat.le_of_ble_eq_true rfl⟩) (g_rMix C hW_6 hS_7 hm [.int 0, .int v_17, .ref (ad G k2)]) rfl rfl hl_19.1 rfl (lv_room (Nat.le_of_ble_eq_true rfl)) dX3_movePart_41 ⟨Nat.zero_le _, Nat.zero_le _⟩) hS_7 (fun Y_21 H_22 locs_23 hW_24 hS_25 h_20 => ?_)
    obtain ⟨w_26, ew_26⟩ : ∃ Z9, Z9 = moveR (X.1 r) i i2 0 v_17 := ⟨_, rfl⟩
    have hW_27 : Wd G (setRow X r w_26) H_22 := Wd.cast (by rw [h_20, ew_26]) hW_24
    refine lv_iload hx hb dX3_movePart_44 (lv_at hl_19 2 rfl) ?_
    refine lv_iload hx hb dX3_movePart_46 (lv_at hl_19 0 rfl) ?_
    refine lv_isub hx hb dX3_movePart_48 ?_
    refine lv_topi (fun v_28 ev_28 => ?_)
    refine lv_istore (lv' := [(4, .int v_28), (6, .int v_17), (5, .int 0), (3, .int v_9), (0, .ref (ad G k)), (1, .int x), (2, .ref (ad G k2))]) hx hb dX3_movePart_49 hl_19 (by decide) rfl (fun ls_29 hl_30 => ?_)
    refine lv_iinc (v := 1) (lv' := [(5, .int 1), (4, .int v_28), (6, .int v_17), (3, .int v_9), (0, .ref (ad G k)), (1, .int x), (2, .ref (ad G k2))]) hx hb dX3_movePart_51 hl_30 (k := 2) rfl (by decide) (by decide) rfl (fun ls_31 hl_32 => ?_)
    refine lv_goto (tgt := 16) hx hb dX3_movePart_54 (by decide) ?_
    refine lv_iload hx hb dX3_movePart_16 (lv_at hl_32 0 rfl) ?_
    refine lv_iconst (v := 4) hx hb dX3_movePart_18 (by decide) ?_
    refine lv_icmp_ge (tgt := 57) hx hb dX3_movePart_19 (by decide) (fun h9 => absurd h9 (by decide)) (fun _ => ?_)
    refine lv_aload_n hx hb dX3_movePart_22 rfl (lv_at hl_32 4 rfl) ?_
    refine g_masses C hW_27 hm (hwc hwX3) (mc qw_127) dX3_movePart_23 ?_
    refine lv_iload hx hb dX3_movePart_26 (lv_at hl_32 0 rfl) ?_
    refine g_mld C hW_27 hm 1 (by decide) (vlit (by decide)) dX3_movePart_28 ?_
    refine g_top (y := w_26 (i + 1)) (congrFun rd_out _) ?_
    refine lv_iload_n hx hb dX3_movePart_29 rfl (lv_at hl_32 5 rfl) ?_
    refine lv_imul hx hb dX3_movePart_30 ?_
    refine lv_iload_n hx hb dX3_movePart_31 rfl (lv_at hl_32 3 rfl) ?_
    refine lv_idiv hx hb dX3_movePart_32 (fun q => by rw [q] at b_12; exact absurd b_12 (by decide)) ?_
    refine lv_topi (fun v_33 ev_33 => ?_)
    refine lv_istore (lv' := [(6, .int v_33), (5, .int 1), (4, .int v_28), (3, .int v_9), (0, .ref (ad G k)), (1, .int x), (2, .ref (ad G k2))]) hx hb dX3_movePart_33 hl_32 (by decide) rfl (fun ls_34 hl_35 => ?_)
    refine lv_aload_n hx hb dX3_movePart_35 rfl (lv_at hl_35 4 rfl) ?_
    refine lv_iload hx hb dX3_movePart_36 (lv_at hl_35 1 rfl) ?_
    refine lv_iload hx hb dX3_movePart_38 (lv_at hl_35 0 rfl) ?_
    refine lv_aload_n hx hb dX3_movePart_40 rfl (lv_at hl_35 6 rfl) ?_
    refine g_callv (va_runV (As := [.int 1, .int v_33, .ref (ad G k2)]) (rest := []) C.1 (cX3_move_ok l G (setRow X r w_26) k a r i hm 1 (by decide) v_33 k2 a2 i2 hm2) (cwV 3 C.1.2.2.2.2 (gV qw_862 qw_852 qw_6 qw_73 qw_853) rfl rfl rfl (by decide +kernel) ⟨Nat.le_of_ble_eq_true rfl, Nat.le_of_ble_eq_true rfl⟩) (g_rMix C hW_27 hS_25 hm [.int 1, .int v_33, .ref (ad G k2)]) rfl rfl hl_35.1 rfl (lv_room (Nat.le_of_ble_eq_true rfl)) dX3_movePart_41 ⟨Nat.zero_le _, Nat.zero_le _⟩) hS_25 (fun Y_37 H_38 locs_39 hW_40 hS_41 h_36 => ?_)
    obtain ⟨w_42, ew_42⟩ : ∃ Z9, Z9 = moveR w_26 i i2 1 v_33 := ⟨_, rfl⟩
    have hW_43 : Wd G (setRow X r w_42) H_38 := Wd.cast (by rw [h_36, ew_42]; exact ((congrArg (fun Z9 => setRow (setRow X r w_26) r (moveR Z9 i i2 1 v_33)) rd_out).trans sr_out)) hW_40
    refine lv_iload hx hb dX3_movePart_44 (lv_at hl_35 2 rfl) ?_
    refine lv_iload hx hb dX3_movePart_46 (lv_at hl_35 0 rfl) ?_
    refine lv_isub hx hb dX3_movePart_48 ?_
    refine lv_topi (fun v_44 ev_44 => ?_)
    refine lv_istore (lv' := [(4, .int v_44), (6, .int v_33), (5, .int 1), (3, .int v_9), (0, .ref (ad G k)), (1, .int x), (2, .ref (ad G k2))]) hx hb dX3_movePart_49 hl_35 (by decide) rfl (fun ls_45 hl_46 => ?_)
    refine lv_iinc (v := 2) (lv' := [(5, .int 2), (4, .int v_44), (6, .int v_33), (3, .int v_9), (0, .ref (ad G k)), (1, .int x), (2, .ref (ad G k2))]) hx hb dX3_movePart_51 hl_46 (k := 2) rfl (by decide) (by decide) rfl (fun ls_47 hl_48 => ?_)
    refine lv_goto (tgt := 16) hx hb dX3_movePart_54 (by decide) ?_
    refine lv_iload hx hb dX3_movePart_16 (lv_at hl_48 0 rfl) ?_
    refine lv_iconst (v := 4) hx hb dX3_movePart_18 (by decide) ?_
    refine lv_icmp_ge (tgt := 57) hx hb dX3_movePart_19 (by decide) (fun h9 => absurd h9 (by decide)) (fun _ => ?_)
    refine lv_aload_n hx hb dX3_movePart_22 rfl (lv_at hl_48 4 rfl) ?_
    refine g_masses C hW_43 hm (hwc hwX3) (mc qw_127) dX3_movePart_23 ?_
    refine lv_iload hx hb dX3_movePart_26 (lv_at hl_48 0 rfl) ?_
    refine g_mld C hW_43 hm 2 (by decide) (vlit (by decide)) dX3_movePart_28 ?_
    refine g_top (y := w_42 (i + 2)) (congrFun rd_out _) ?_
    refine lv_iload_n hx hb dX3_movePart_29 rfl (lv_at hl_48 5 rfl) ?_
    refine lv_imul hx hb dX3_movePart_30 ?_
    refine lv_iload_n hx hb dX3_movePart_31 rfl (lv_at hl_48 3 rfl) ?_
    refine lv_idiv hx hb dX3_movePart_32 (fun q => by rw [q] at b_12; exact absurd b_12 (by decide)) ?_
    refine lv_topi (fun v_49 ev_49 => ?_)
    refine lv_istore (lv' := [(6, .int v_49), (5, .int 2), (4, .int v_44), (3, .int v_9), (0, .ref (ad G k)), (1, .int x), (2, .ref (ad G k2))]) hx hb dX3_movePart_33 hl_48 (by decide) rfl (fun ls_50 hl_51 => ?_)
    refine lv_aload_n hx hb dX3_movePart_35 rfl (lv_at hl_51 4 rfl) ?_
    refine lv_iload hx hb dX3_movePart_36 (lv_at hl_51 1 rfl) ?_
    refine lv_iload hx hb dX3_movePart_38 (lv_at hl_51 0 rfl) ?_
    refine lv_aload_n hx hb dX3_movePart_40 rfl (lv_at hl_51 6 rfl) ?_
    refine g_callv (va_runV (As := [.int 2, .int v_49, .ref (ad G k2)]) (rest := []) C.1 (cX3_move_ok l G (setRow X r w_42) k a r i hm 2 (by decide) v_49 k2 a2 i2 hm2) (cwV 3 C.1.2.2.2.2 (gV qw_862 qw_852 qw_6 qw_73 qw_853) rfl rfl rfl (by decide +kernel) ⟨Nat.le_of_ble_eq_true rfl, Nat.le_of_ble_eq_true rfl⟩) (g_rMix C hW_43 hS_41 hm [.int 2, .int v_49, .ref (ad G k2)]) rfl rfl hl_51.1 rfl (lv_room (Nat.le_of_ble_eq_true rfl)) dX3_movePart_41 ⟨Nat.zero_le _, Nat.zero_le _⟩) hS_41 (fun Y_53 H_54 locs_55 hW_56 hS_57 h_52 => ?_)
    obtain ⟨w_58, ew_58⟩ : ∃ Z9, Z9 = moveR w_42 i i2 2 v_49 := ⟨_, rfl⟩
    have hW_59 : Wd G (setRow X r w_58) H_54 := Wd.cast (by rw [h_52, ew_58]; exact ((congrArg (fun Z9 => setRow (setRow X r w_42) r (moveR Z9 i i2 2 v_49)) rd_out).trans sr_out)) hW_56
    refine lv_iload hx hb dX3_movePart_44 (lv_at hl_51 2 rfl) ?_
    refine lv_iload hx hb dX3_movePart_46 (lv_at hl_51 0 rfl) ?_
    refine lv_isub hx hb dX3_movePart_48 ?_
    refine lv_topi (fun v_60 ev_60 => ?_)
    refine lv_istore (lv' := [(4, .int v_60), (6, .int v_49), (5, .int 2), (3, .int v_9), (0, .ref (ad G k)), (1, .int x), (2, .ref (ad G k2))]) hx hb dX3_movePart_49 hl_51 (by decide) rfl (fun ls_61 hl_62 => ?_)
    refine lv_iinc (v := 3) (lv' := [(5, .int 3), (4, .int v_60), (6, .int v_49), (3, .int v_9), (0, .ref (ad G k)), (1, .int x), (2, .ref (ad G k2))]) hx hb dX3_movePart_51 hl_62 (k := 2) rfl (by decide) (by decide) rfl (fun ls_63 hl_64 => ?_)
    refine lv_goto (tgt := 16) hx hb dX3_movePart_54 (by decide) ?_
    refine lv_iload hx hb dX3_movePart_16 (lv_at hl_64 0 rfl) ?_
    refine lv_iconst (v := 4) hx hb dX3_movePart_18 (by decide) ?_
    refine lv_icmp_ge (tgt := 57) hx hb dX3_movePart_19 (by decide) (fun h9 => absurd h9 (by decide)) (fun _ => ?_)
    refine lv_aload_n hx hb dX3_movePart_22 rfl (lv_at hl_64 4 rfl) ?_
    refine g_masses C hW_59 hm (hwc hwX3) (mc qw_127) dX3_movePart_23 ?_
    refine lv_iload hx hb dX3_movePart_26 (lv_at hl_64 0 rfl) ?_
    refine g_mld C hW_59 hm 3 (by decide) (vlit (by decide)) dX3_movePart_28 ?_
    refine g_top (y := w_58 (i + 3)) (congrFun rd_out _) ?_
    refine lv_iload_n hx hb dX3_movePart_29 rfl (lv_at hl_64 5 rfl) ?_
    refine lv_imul hx hb dX3_movePart_30 ?_
    refine lv_iload_n hx hb dX3_movePart_31 rfl (lv_at hl_64 3 rfl) ?_
    refine lv_idiv hx hb dX3_movePart_32 (fun q => by rw [q] at b_12; exact absurd b_12 (by decide)) ?_
    refine lv_topi (fun v_65 ev_65 => ?_)
    refine lv_istore (lv' := [(6, .int v_65), (5, .int 3), (4, .int v_60), (3, .int v_9), (0, .ref (ad G k)), (1, .int x), (2, .ref (ad G k2))]) hx hb dX3_movePart_33 hl_64 (by decide) rfl (fun ls_66 hl_67 => ?_)
    refine lv_aload_n hx hb dX3_movePart_35 rfl (lv_at hl_67 4 rfl) ?_
    refine lv_iload hx hb dX3_movePart_36 (lv_at hl_67 1 rfl) ?_
    refine lv_iload hx hb dX3_movePart_38 (lv_at hl_67 0 rfl) ?_
    refine lv_aload_n hx hb dX3_movePart_40 rfl (lv_at hl_67 6 rfl) ?_
    refine g_callv (va_runV (As := [.int 3, .int v_65, .ref (ad G k2)]) (rest := []) C.1 (cX3_move_ok l G (setRow X r w_58) k a r i hm 3 (by decide) v_65 k2 a2 i2 hm2) (cwV 3 C.1.2.2.2.2 (gV qw_862 qw_852 qw_6 qw_73 qw_853) rfl rfl rfl (by decide +kernel) ⟨Nat.le_of_ble_eq_true rfl, Nat.le_of_ble_eq_true rfl⟩) (g_rMix C hW_59 hS_57 hm [.int 3, .int v_65, .ref (ad G k2)]) rfl rfl hl_67.1 rfl (lv_room (Nat.le_of_ble_eq_true rfl)) dX3_movePart_41 ⟨Nat.zero_le _, Nat.zero_le _⟩) hS_57 (fun Y_69 H_70 locs_71 hW_72 hS_73 h_68 => ?_)
    obtain ⟨w_74, ew_74⟩ : ∃ Z9, Z9 = moveR w_58 i i2 3 v_65 := ⟨_, rfl⟩
    have hW_75 : Wd G (setRow X r w_74) H_70 := Wd.cast (by rw [h_68, ew_74]; exact ((congrArg (fun Z9 => setRow (setRow X r w_58) r (moveR Z9 i i2 3 v_65)) rd_out).trans sr_out)) hW_72
    refine lv_iload hx hb dX3_movePart_44 (lv_at hl_67 2 rfl) ?_
    refine lv_iload hx hb dX3_movePart_46 (lv_at hl_67 0 rfl) ?_
    refine lv_isub hx hb dX3_movePart_48 ?_
    refine lv_topi (fun v_76 ev_76 => ?_)
    refine lv_istore (lv' := [(4, .int v_76), (6, .int v_65), (5, .int 3), (3, .int v_9), (0, .ref (ad G k)), (1, .int x), (2, .ref (ad G k2))]) hx hb dX3_movePart_49 hl_67 (by decide) rfl (fun ls_77 hl_78 => ?_)
    refine lv_iinc (v := 4) (lv' := [(5, .int 4), (4, .int v_76), (6, .int v_65), (3, .int v_9), (0, .ref (ad G k)), (1, .int x), (2, .ref (ad G k2))]) hx hb dX3_movePart_51 hl_78 (k := 2) rfl (by decide) (by decide) rfl (fun ls_79 hl_80 => ?_)
    refine lv_goto (tgt := 16) hx hb dX3_movePart_54 (by decide) ?_
    refine lv_iload hx hb dX3_movePart_16 (lv_at hl_80 0 rfl) ?_
    refine lv_iconst (v := 4) hx hb dX3_movePart_18 (by decide) ?_
    refine lv_icmp_ge (tgt := 57) hx hb dX3_movePart_19 (by decide) (fun _ => ?_) (fun h9 => absurd h9 (by decide))
    refine lv_iload hx hb dX3_movePart_57 (lv_at hl_80 1 rfl) ?_
    refine lv_istore (lv' := [(5, .int v_76), (4, .int v_76), (6, .int v_65), (3, .int v_9), (0, .ref (ad G k)), (1, .int x), (2, .ref (ad G k2))]) hx hb dX3_movePart_59 hl_80 (by decide) rfl (fun ls_81 hl_82 => ?_)
    have loop : ∀ (q : Nat) (z : Nat → Int32) (y : Int32) (H : Heap) (locs : List Loc) (ls : Array Slot), cnt y = q → mvLoop i i2 q z = movePartR (X.1 r) i i2 x → Wd G (setRow X r z) H → va_S (Ab G) s.heap H locs → lv_has ls 7 [(5, .int y), (0, .ref (ad G k)), (2, .ref (ad G k2))] → W p l e (rmz 1 23) s m ([.ref (ad G k), .int x, .ref (ad G k2)] : List Value).toArray below meth c H locs 0 0 (MQ below (Kv G (fun Y => Y = setRow X r (movePartR (X.1 r) i i2 x))) ([.ref (ad G k), .int x, .ref (ad G k2)] : List Value).toArray s 0 0 (Ab G)) (F0 m 61 ls []) := by
      intro q
      induction q with
      | zero =>
        intro z y H locs ls hq hf hW hS hl
        refine lv_iload hx hb dX3_movePart_61 (lv_at hl 0 rfl) ?_
        refine lv_if_le (tgt := 83) hx hb dX3_movePart_63 (by decide) (fun _ => ?_) (fun h9 => absurd (cnt_0 hq) h9)
        exact g_vret C hr hlk hW hS dX3_movePart_83 (by rw [← hf]; rfl)
      | succ q ih =>
        intro z y H locs ls hq hf hW hS hl
        refine lv_iload hx hb dX3_movePart_61 (lv_at hl 0 rfl) ?_
        refine lv_if_le (tgt := 83) hx hb dX3_movePart_63 (by decide) (fun h9 => absurd h9 (cnt_s hq)) (fun _ => ?_)
        refine lv_aload_n hx hb dX3_movePart_66 rfl (lv_at hl 1 rfl) ?_
        refine lv_aload_n hx hb dX3_movePart_67 rfl (lv_at hl 1 rfl) ?_
        refine lv_iconst (v := 4) hx hb dX3_movePart_68 (by decide) ?_
        refine g_calli (va_runV (As := [.int 4]) (rest := [.ref (ad G k)]) C.1 (cX3_mostOf4_ok l G (setRow X r z) k a r i hm) (cwV 1 C.1.2.2.2.2 (gV qw_863 qw_846 qw_847 qw_73 qw_848) rfl rfl rfl (by decide +kernel) ⟨Nat.le_of_ble_eq_true rfl, Nat.le_of_ble_eq_true rfl⟩) (g_rMix C hW hS hm [.int 4]) rfl rfl hl.1 rfl (lv_room (Nat.le_of_ble_eq_true rfl)) dX3_movePart_69 ⟨Nat.zero_le _, Nat.zero_le _⟩) hS (fun r_84 Y_85 H_86 locs_87 hW_88 hS_89 h_83 => ?_)
        obtain ⟨h_83, hy_90⟩ := h_83
        replace hy_90 := hy_90.symm
        subst hy_90
        replace h_83 := h_83.trans (congrArg (fun Z9 => nI (best4 Z9 i)) rd_out)
        subst h_83
        refine lv_iconst (v := 1) hx hb dX3_movePart_72 (by decide) ?_
        refine lv_aload_n hx hb dX3_movePart_73 rfl (lv_at hl 2 rfl) ?_
        refine g_callv (va_runV (As := [.int (nI (best4 z i)), .int 1, .ref (ad G k2)]) (rest := []) C.1 (cX3_move_ok l G (setRow X r z) k a r i hm (best4 z i) (lt_best4 _ _) 1 k2 a2 i2 hm2) (cwV 3 C.1.2.2.2.2 (gV qw_862 qw_852 qw_6 qw_73 qw_853) rfl rfl rfl (by decide +kernel) ⟨Nat.le_of_ble_eq_true rfl, Nat.le_of_ble_eq_true rfl⟩) (g_rMix C hW_88 hS_89 hm [.int (nI (best4 z i)), .int 1, .ref (ad G k2)]) rfl rfl hl.1 rfl (lv_room (Nat.le_of_ble_eq_true rfl)) dX3_movePart_74 ⟨Nat.zero_le _, Nat.zero_le _⟩) hS_89 (fun Y_92 H_93 locs_94 hW_95 hS_96 h_91 => ?_)
        obtain ⟨w_97, ew_97⟩ : ∃ Z9, Z9 = moveR z i i2 (best4 z i) 1 := ⟨_, rfl⟩
        have hW_98 : Wd G (setRow X r w_97) H_93 := Wd.cast (by rw [h_91, ew_97]; exact ((congrArg (fun Z9 => setRow (setRow X r z) r (moveR Z9 i i2 (best4 z i) 1)) rd_out).trans sr_out)) hW_95
        obtain ⟨v_99, ev_99⟩ : ∃ Y9 : Int32, Y9 = y + (-1) := ⟨_, rfl⟩
        refine lv_iinc (v := v_99) (lv' := [(5, .int v_99), (0, .ref (ad G k)), (2, .ref (ad G k2))]) hx hb dX3_movePart_77 hl (k := 0) rfl (by rw [ev_99]; rfl) (by decide) rfl (fun ls_100 hl_101 => ?_)
        refine lv_goto (tgt := 61) hx hb dX3_movePart_80 (by decide) ?_
        exact ih w_97 v_99 H_93 locs_94 ls_100 (by subst ev_99; subst ew_97; exact cnt_p hq) (by subst ev_99; subst ew_97; exact hf) hW_98 hS_96 (lv_sub hl_101 [0, 1, 2] rfl)
    exact loop _ w_74 v_76 H_70 locs_71 ls_81 rfl (by subst ev_76; subst ew_74; subst ev_65; subst ev_60; subst ew_58; subst ev_49; subst ev_44; subst ew_42; subst ev_33; subst ev_28; subst ew_26; subst ev_17; subst ev_9; simp only [movePartR, b_12, if_true, if_false]; rfl) hW_75 hS_73 (lv_sub hl_82 [0, 4, 6] rfl)
  · exact g_vret C hr hlk hW_6 hS_7 dX3_movePart_9 (by subst ev_9; simp only [movePartR, b_12, if_true, if_false, sr_self])
