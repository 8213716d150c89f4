/-! The law reads its script. -/
section LA
variable {p : Program} {l : Launch} {e : Env} {R : Room} {s : State} {m : MethodId} {args : Array Value} {below : List Frame} {meth : Method} {c : Code} {H : Heap} {locs : List Loc} {cells slots : Nat} {Q : State → Prop}
variable {ls : Array Slot} {rest : List Value} {G : GT} {b L : Nat} {xs : Nat → Int32}
theorem lw_arg (C : Cx p m c cL_law 10 s args lw_all "FoundryLaw" G) (hX : va_X b L xs s s.heap) (hbl : b < s.heap.size) (hbA : ¬ Ab G b) (hS : va_S (Ab G) s.heap H locs) {n : Nat} (j : Nat) (hj : 4 * n + j < L) (hL : L < 2 ^ 31) (i0 : ls[0]? = some (.val (.ref b))) (i5 : ls[5]? = some (.val (.int (nI (4 * n))))) {T : Nat} {kj : Int} (hv : Int32.ofInt kj = nI j)
    (d0 : decode cL_law T = .ok (.aload_n 0, 1)) (d1 : decode cL_law (T + 1) = .ok (.iload 5, 2)) (d3 : decode cL_law (T + 3) = .ok (.iconst kj, 1)) (d4 : decode cL_law (T + 4) = .ok (.iadd, 1)) (d5 : decode cL_law (T + 5) = .ok (.iaload, 1))
    (kk : W p l e R s m args below meth c H locs cells slots Q (F0 m (T + 6) ls (.int (xs (4 * n + j)) :: rest))) : W p l e R s m args below meth c H locs cells slots Q (F0 m T ls rest) := by
  have hx := C.1.1
  have hb := C.1.2.1
  refine lv_aload_n hx hb d0 rfl i0 ?_
  refine lv_iload hx hb d1 i5 ?_
  refine lv_iconst (v := nI j) hx hb d3 hv ?_
  refine lv_iadd hx hb d4 ?_
  rw [nI_add]
  refine va_sld hx hb hX hbl hbA hS (vp_in_nI hj hL) d5 ?_
  rw [nI_clamp (by omega)]
  exact kk
/-- as a char -/
theorem lw_argc (C : Cx p m c cL_law 10 s args lw_all "FoundryLaw" G) (hX : va_X b L xs s s.heap) (hbl : b < s.heap.size) (hbA : ¬ Ab G b) (hS : va_S (Ab G) s.heap H locs) {n : Nat} (j : Nat) (hj : 4 * n + j < L) (hL : L < 2 ^ 31) (i0 : ls[0]? = some (.val (.ref b))) (i5 : ls[5]? = some (.val (.int (nI (4 * n))))) {T : Nat} {kj : Int} (hv : Int32.ofInt kj = nI j)
    (d0 : decode cL_law T = .ok (.aload_n 0, 1)) (d1 : decode cL_law (T + 1) = .ok (.iload 5, 2)) (d3 : decode cL_law (T + 3) = .ok (.iconst kj, 1)) (d4 : decode cL_law (T + 4) = .ok (.iadd, 1)) (d5 : decode cL_law (T + 5) = .ok (.iaload, 1)) (d6 : decode cL_law (T + 6) = .ok (.i2c, 1))
    (kk : W p l e R s m args below meth c H locs cells slots Q (F0 m (T + 7) ls (.int (((xs (4 * n + j)).toUInt32 % 65536).toInt32) :: rest))) : W p l e R s m args below meth c H locs cells slots Q (F0 m T ls rest) :=
  lw_arg C hX hbl hbA hS j hj hL i0 i5 hv d0 d1 d3 d4 d5 (lv_i2c C.1.1 C.1.2.1 d6 rfl kk)
end LA
