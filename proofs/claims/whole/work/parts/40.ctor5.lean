/-! The reference is made. -/
theorem q_iastj {p : Program} {l : Launch} {e : Env} {R : Room} {s : State} {m : MethodId} {args : Array Value} {below : List Frame} {meth : Method} {c : Code} {H : Heap} {locs : List Loc} {cells slots : Nat} {Q : State → Prop} {cc : ByteArray} {nL pc : Nat} {ls : Array Slot} {rest : List Value} {G : GT} {W0 T : va_W} {Ts : List Cond} {own : String} (C : Cx p m c cc nL s args Ts own G) (hW : Wq G (W0 ++ T) H) (hS : va_S (Ab G) s.heap H locs) (i : Nat) {a n : Nat} {f : Nat → Int32} (ha : T[i]? = some (a, .inl (cy G 0, n, .inl f))) {x v : Int32} (j : Nat) (hx : x.toNatClampNeg = j) (hin : vp_in x n) (hdg : decode cc pc = .ok (.iastore, 1))
    (kk : ∀ (f2 : Nat → Int32) (H1 : Heap) (locs1 : List Loc), f2 = upd f j v → Wq G (W0 ++ T.set i (a, .inl (cy G 0, n, .inl f2))) H1 → va_S (Ab G) s.heap H1 locs1 → W p l e R s m args below meth c H1 locs1 cells slots Q (F0 m (pc + 1) ls rest)) : W p l e R s m args below meth c H locs cells slots Q (F0 m pc ls (.int v :: .int x :: .ref a :: rest)) := by
  subst hx
  exact q_iast C hW hS i ha hin hdg (fun H1 locs1 h1 h2 => kk _ H1 locs1 rfl h1 h2)

def ptq : Nat → Int32 := (upd (upd (upd (upd (fun _ => 0) 0 1085) 1 232) 2 327) 3 1200)
def wdq : Nat → Int32 := (upd (upd (upd (upd (upd (upd (upd (upd (upd (upd (upd (upd (upd (upd (upd (upd (upd (upd (upd (upd (upd (upd (upd (upd (upd (upd (upd (upd (upd (upd (upd (upd (upd (upd (upd (upd (upd (upd (upd (upd (upd (upd (upd (upd (upd (upd (upd (upd (upd (upd (upd (upd (upd (fun _ => 0) 0 99) 1 104) 2 97) 3 114) 4 103) 5 101) 6 32) 7 102) 8 105) 9 114) 10 101) 11 32) 12 115) 13 107) 14 105) 15 109) 16 32) 17 116) 18 97) 19 112) 20 32) 21 98) 22 97) 23 99) 24 107) 25 32) 26 109) 27 111) 28 117) 29 108) 30 100) 31 32) 32 112) 33 111) 34 117) 35 114) 36 32) 37 98) 38 114) 39 101) 40 97) 41 107) 42 32) 43 109) 44 101) 45 108) 46 116) 47 32) 48 119) 49 97) 50 105) 51 116) 52 32)
def waq : Nat → Int32 := (upd (upd (upd (upd (upd (upd (upd (upd (upd (upd (upd (fun _ => 0) 0 0) 1 7) 2 12) 3 17) 4 21) 5 26) 6 32) 7 37) 8 43) 9 48) 10 53)
def v0q : Nat → Int32 := (upd (upd (upd (upd (upd (upd (fun _ => 0) 13 20) 19 20) 25 20) 31 20) 36 20) 41 20)
/-- the reference as its constructor makes it: the object and its arrays -/
def mdq (G : GT) (h0 : Nat) (a : Nat → Nat) : va_W := [(h0, .inr (10, [.int 0, .int 0, .int (-1), .int (-1), .int 0, .ref (a 1), .ref (a 2), .ref (a 3), .ref (a 4), .ref (a 5), .ref (a 6), .ref (a 7), .ref (a 8), .ref (a 9), .ref (a 10), .ref (a 11), .int 0, .int 0, .int 0, .int 0, .int 0, .int 0])), (a 1, .inl (cy G 0, 128, .inl v0q)), (a 2, .inl (cy G 0, 128, .inl (fun _ => 0))), (a 3, .inl (cy G 0, 128, .inl (fun _ => 0))), (a 4, .inl (cy G 0, 1024, .inl (fun _ => 0))), (a 5, .inl (cy G 0, 4, .inl (fun _ => 0))), (a 6, .inl (cy G 0, 4, .inl ptq)), (a 7, .inl (cy G 0, 60, .inl (fun _ => 0))), (a 8, .inl (cy G 0, 40, .inl (fun _ => 0))), (a 9, .inl (cy G 0, 10, .inl (fun _ => 0))), (a 10, .inl (cy G 0, 53, .inl wdq)), (a 11, .inl (cy G 0, 11, .inl waq))]

set_option maxHeartbeats 4000000 in
set_option maxRecDepth 100000 in
theorem cX8_init_q (l : Launch) (G : GT) (W0 : va_W) (h0 : Nat) : MetC l G 11 1590 yX8_init (wsG yX8_init cX8_init 2 none) (rmc 1 11 1590 40) [.ref h0] (W0 ++ [(h0, .inr (10, [.int 0, .int 0, .int 0, .int 0, .int 0, .null, .null, .null, .null, .null, .null, .null, .null, .null, .null, .null, .int 0, .int 0, .int 0, .int 0, .int 0, .int 0]))]) (fun V => ∃ a : Nat → Nat, V = W0 ++ mdq G h0 a) := by
  refine q_met (cc := cX8_init) (maxL := 2) (ret := none) (by decide) rfl (Nat.le_of_ble_eq_true rfl) ?_
  intro p e s m below meth c ls C hr hlk hnm hO hW hl
  have hx := C.1.1
  have hb := C.1.2.1
  have hS : va_S (Ab G) s.heap s.heap [] := va_S.rf
  have hA : ∀ q, s.heap.size ≤ q → Ab G q := fun q h => hW.ab (k := W0.length + 0) (ql_at rfl) h
  have hl : lv_has ls 2 [(0, .ref h0)] := hl
  refine lv_aload_n hx hb dX8_init_0 rfl (lv_at hl 0 rfl) ?_
  refine q_obj C hl.1 (mc qw_1469) (mc qw_110) (mc qw_111) dX8_init_1 (by decide) (by decide) (by decide) ?_
  refine lv_aload_n hx hb dX8_init_4 rfl (lv_at hl 0 rfl) ?_
  refine lv_iconst (v := (-1)) hx hb dX8_init_5 (by decide) ?_
  refine q_put (ci := 10) (v := .int (-1)) (ty := .int) C hW hS (hwc hwX8) tyX8 tyX8_ok nmX8 0 rfl rfl 2 (by decide) (mc qw_1478) (fun _ h9 => h9) rfl (by decide +kernel) rfl rfl (Nat.le_of_ble_eq_true rfl) dX8_init_6 (fun H locs hW hS => ?_)
  have hW : Wq G (W0 ++ [(h0, .inr (10, [.int 0, .int 0, .int (-1), .int 0, .int 0, .null, .null, .null, .null, .null, .null, .null, .null, .null, .null, .null, .int 0, .int 0, .int 0, .int 0, .int 0, .int 0]))]) H := hW
  refine lv_aload_n hx hb dX8_init_9 rfl (lv_at hl 0 rfl) ?_
  refine lv_iconst (v := (-1)) hx hb dX8_init_10 (by decide) ?_
  refine q_put (ci := 10) (v := .int (-1)) (ty := .int) C hW hS (hwc hwX8) tyX8 tyX8_ok nmX8 0 rfl rfl 3 (by decide) (mc qw_1479) (fun _ h9 => h9) rfl (by decide +kernel) rfl rfl (Nat.le_of_ble_eq_true rfl) dX8_init_11 (fun H locs hW hS => ?_)
  have hW : Wq G (W0 ++ [(h0, .inr (10, [.int 0, .int 0, .int (-1), .int (-1), .int 0, .null, .null, .null, .null, .null, .null, .null, .null, .null, .null, .null, .int 0, .int 0, .int 0, .int 0, .int 0, .int 0]))]) H := hW
  refine lv_aload_n hx hb dX8_init_14 rfl (lv_at hl 0 rfl) ?_
  refine lv_sipush (v := 128) hx hb dX8_init_15 (by decide) ?_
  refine q_newa (atype := .int) (a0 := (128, .inl (fun _ => 0))) (N' := 128) C hW hS hA rfl (mc qw_133) 0 rfl (fun cA => rfl) (by decide) rfl (by decide) (by decide) (by decide) dX8_init_18 (fun q1 H hW hS => ?_)
  have hW : Wq G (W0 ++ [(h0, .inr (10, [.int 0, .int 0, .int (-1), .int (-1), .int 0, .null, .null, .null, .null, .null, .null, .null, .null, .null, .null, .null, .int 0, .int 0, .int 0, .int 0, .int 0, .int 0])), (q1, .inl (cy G 0, 128, .inl (fun _ => 0)))]) H := hW
  refine q_putF (ci := 10) (v := .ref q1) (ty := .array .int) C hW hS (hwc hwX8) tyX8 tyX8_ok nmX8 0 rfl rfl 5 (by decide) (mc qw_1481) (fun _ h9 => h9) rfl hnm rfl (by decide +kernel) rfl rfl (Nat.le_of_ble_eq_true rfl) dX8_init_20 (fun H locs hW hS => ?_)
  have hW : Wq G (W0 ++ [(h0, .inr (10, [.int 0, .int 0, .int (-1), .int (-1), .int 0, .ref q1, .null, .null, .null, .null, .null, .null, .null, .null, .null, .null, .int 0, .int 0, .int 0, .int 0, .int 0, .int 0])), (q1, .inl (cy G 0, 128, .inl (fun _ => 0)))]) H := hW
  refine lv_aload_n hx hb dX8_init_23 rfl (lv_at hl 0 rfl) ?_
  refine lv_sipush (v := 128) hx hb dX8_init_24 (by decide) ?_
  refine q_newa (atype := .int) (a0 := (128, .inl (fun _ => 0))) (N' := 128) C hW hS hA rfl (mc qw_133) 0 rfl (fun cA => rfl) (by decide) rfl (by decide) (by decide) (by decide) dX8_init_27 (fun q2 H hW hS => ?_)
  have hW : Wq G (W0 ++ [(h0, .inr (10, [.int 0, .int 0, .int (-1), .int (-1), .int 0, .ref q1, .null, .null, .null, .null, .null, .null, .null, .null, .null, .null, .int 0, .int 0, .int 0, .int 0, .int 0, .int 0])), (q1, .inl (cy G 0, 128, .inl (fun _ => 0))), (q2, .inl (cy G 0, 128, .inl (fun _ => 0)))]) H := hW
  refine q_putF (ci := 10) (v := .ref q2) (ty := .array .int) C hW hS (hwc hwX8) tyX8 tyX8_ok nmX8 0 rfl rfl 6 (by decide) (mc qw_1482) (fun _ h9 => h9) rfl hnm rfl (by decide +kernel) rfl rfl (Nat.le_of_ble_eq_true rfl) dX8_init_29 (fun H locs hW hS => ?_)
  have hW : Wq G (W0 ++ [(h0, .inr (10, [.int 0, .int 0, .int (-1), .int (-1), .int 0, .ref q1, .ref q2, .null, .null, .null, .null, .null, .null, .null, .null, .null, .int 0, .int 0, .int 0, .int 0, .int 0, .int 0])), (q1, .inl (cy G 0, 128, .inl (fun _ => 0))), (q2, .inl (cy G 0, 128, .inl (fun _ => 0)))]) H := hW
  refine lv_aload_n hx hb dX8_init_32 rfl (lv_at hl 0 rfl) ?_
  refine lv_sipush (v := 128) hx hb dX8_init_33 (by decide) ?_
  refine q_newa (atype := .int) (a0 := (128, .inl (fun _ => 0))) (N' := 128) C hW hS hA rfl (mc qw_133) 0 rfl (fun cA => rfl) (by decide) rfl (by decide) (by decide) (by decide) dX8_init_36 (fun q3 H hW hS => ?_)
  have hW : Wq G (W0 ++ [(h0, .inr (10, [.int 0, .int 0, .int (-1), .int (-1), .int 0, .ref q1, .ref q2, .null, .null, .null, .null, .null, .null, .null, .null, .null, .int 0, .int 0, .int 0, .int 0, .int 0, .int 0])), (q1, .inl (cy G 0, 128, .inl (fun _ => 0))), (q2, .inl (cy G 0, 128, .inl (fun _ => 0))), (q3, .inl (cy G 0, 128, .inl (fun _ => 0)))]) H := hW
  refine q_putF (ci := 10) (v := .ref q3) (ty := .array .int) C hW hS (hwc hwX8) tyX8 tyX8_ok nmX8 0 rfl rfl 7 (by decide) (mc qw_1483) (fun _ h9 => h9) rfl hnm rfl (by decide +kernel) rfl rfl (Nat.le_of_ble_eq_true rfl) dX8_init_38 (fun H locs hW hS => ?_)
  have hW : Wq G (W0 ++ [(h0, .inr (10, [.int 0, .int 0, .int (-1), .int (-1), .int 0, .ref q1, .ref q2, .ref q3, .null, .null, .null, .null, .null, .null, .null, .null, .int 0, .int 0, .int 0, .int 0, .int 0, .int 0])), (q1, .inl (cy G 0, 128, .inl (fun _ => 0))), (q2, .inl (cy G 0, 128, .inl (fun _ => 0))), (q3, .inl (cy G 0, 128, .inl (fun _ => 0)))]) H := hW
  refine lv_aload_n hx hb dX8_init_41 rfl (lv_at hl 0 rfl) ?_
  refine lv_sipush (v := 1024) hx hb dX8_init_42 (by decide) ?_
  refine q_newa (atype := .int) (a0 := (1024, .inl (fun _ => 0))) (N' := 1024) C hW hS hA rfl (mc qw_133) 0 rfl (fun cA => rfl) (by decide) rfl (by decide) (by decide) (by decide) dX8_init_45 (fun q4 H hW hS => ?_)
  have hW : Wq G (W0 ++ [(h0, .inr (10, [.int 0, .int 0, .int (-1), .int (-1), .int 0, .ref q1, .ref q2, .ref q3, .null, .null, .null, .null, .null, .null, .null, .null, .int 0, .int 0, .int 0, .int 0, .int 0, .int 0])), (q1, .inl (cy G 0, 128, .inl (fun _ => 0))), (q2, .inl (cy G 0, 128, .inl (fun _ => 0))), (q3, .inl (cy G 0, 128, .inl (fun _ => 0))), (q4, .inl (cy G 0, 1024, .inl (fun _ => 0)))]) H := hW
  refine q_putF (ci := 10) (v := .ref q4) (ty := .array .int) C hW hS (hwc hwX8) tyX8 tyX8_ok nmX8 0 rfl rfl 8 (by decide) (mc qw_1484) (fun _ h9 => h9) rfl hnm rfl (by decide +kernel) rfl rfl (Nat.le_of_ble_eq_true rfl) dX8_init_47 (fun H locs hW hS => ?_)
  have hW : Wq G (W0 ++ [(h0, .inr (10, [.int 0, .int 0, .int (-1), .int (-1), .int 0, .ref q1, .ref q2, .ref q3, .ref q4, .null, .null, .null, .null, .null, .null, .null, .int 0, .int 0, .int 0, .int 0, .int 0, .int 0])), (q1, .inl (cy G 0, 128, .inl (fun _ => 0))), (q2, .inl (cy G 0, 128, .inl (fun _ => 0))), (q3, .inl (cy G 0, 128, .inl (fun _ => 0))), (q4, .inl (cy G 0, 1024, .inl (fun _ => 0)))]) H := hW
  refine lv_aload_n hx hb dX8_init_50 rfl (lv_at hl 0 rfl) ?_
  refine lv_iconst (v := 4) hx hb dX8_init_51 (by decide) ?_
  refine q_newa (atype := .int) (a0 := (4, .inl (fun _ => 0))) (N' := 4) C hW hS hA rfl (mc qw_133) 0 rfl (fun cA => rfl) (by decide) rfl (by decide) (by decide) (by decide) dX8_init_52 (fun q5 H hW hS => ?_)
  have hW : Wq G (W0 ++ [(h0, .inr (10, [.int 0, .int 0, .int (-1), .int (-1), .int 0, .ref q1, .ref q2, .ref q3, .ref q4, .null, .null, .null, .null, .null, .null, .null, .int 0, .int 0, .int 0, .int 0, .int 0, .int 0])), (q1, .inl (cy G 0, 128, .inl (fun _ => 0))), (q2, .inl (cy G 0, 128, .inl (fun _ => 0))), (q3, .inl (cy G 0, 128, .inl (fun _ => 0))), (q4, .inl (cy G 0, 1024, .inl (fun _ => 0))), (q5, .inl (cy G 0, 4, .inl (fun _ => 0)))]) H := hW
  refine q_putF (ci := 10) (v := .ref q5) (ty := .array .int) C hW hS (hwc hwX8) tyX8 tyX8_ok nmX8 0 rfl rfl 9 (by decide) (mc qw_1485) (fun _ h9 => h9) rfl hnm rfl (by decide +kernel) rfl rfl (Nat.le_of_ble_eq_true rfl) dX8_init_54 (fun H locs hW hS => ?_)
  have hW : Wq G (W0 ++ [(h0, .inr (10, [.int 0, .int 0, .int (-1), .int (-1), .int 0, .ref q1, .ref q2, .ref q3, .ref q4, .ref q5, .null, .null, .null, .null, .null, .null, .int 0, .int 0, .int 0, .int 0, .int 0, .int 0])), (q1, .inl (cy G 0, 128, .inl (fun _ => 0))), (q2, .inl (cy G 0, 128, .inl (fun _ => 0))), (q3, .inl (cy G 0, 128, .inl (fun _ => 0))), (q4, .inl (cy G 0, 1024, .inl (fun _ => 0))), (q5, .inl (cy G 0, 4, .inl (fun _ => 0)))]) H := hW
  refine lv_aload_n hx hb dX8_init_57 rfl (lv_at hl 0 rfl) ?_
  refine lv_iconst (v := 4) hx hb dX8_init_58 (by decide) ?_
  refine q_newa (atype := .int) (a0 := (4, .inl (fun _ => 0))) (N' := 4) C hW hS hA rfl (mc qw_133) 0 rfl (fun cA => rfl) (by decide) rfl (by decide) (by decide) (by decide) dX8_init_59 (fun q6 H hW hS => ?_)
  have hW : Wq G (W0 ++ [(h0, .inr (10, [.int 0, .int 0, .int (-1), .int (-1), .int 0, .ref q1, .ref q2, .ref q3, .ref q4, .ref q5, .null, .null, .null, .null, .null, .null, .int 0, .int 0, .int 0, .int 0, .int 0, .int 0])), (q1, .inl (cy G 0, 128, .inl (fun _ => 0))), (q2, .inl (cy G 0, 128, .inl (fun _ => 0))), (q3, .inl (cy G 0, 128, .inl (fun _ => 0))), (q4, .inl (cy G 0, 1024, .inl (fun _ => 0))), (q5, .inl (cy G 0, 4, .inl (fun _ => 0))), (q6, .inl (cy G 0, 4, .inl (fun _ => 0)))]) H := hW
  refine lv_dup hx hb dX8_init_61 rfl ?_
  refine lv_iconst (v := 0) hx hb dX8_init_62 (by decide) ?_
  refine lv_sipush (v := 1085) hx hb dX8_init_63 (by decide) ?_
  refine q_iastj C hW hS 6 rfl 0 (by decide) (vlit (by decide)) dX8_init_66 (fun f7 H locs ef7 hW hS => ?_)
  have hW : Wq G (W0 ++ [(h0, .inr (10, [.int 0, .int 0, .int (-1), .int (-1), .int 0, .ref q1, .ref q2, .ref q3, .ref q4, .ref q5, .null, .null, .null, .null, .null, .null, .int 0, .int 0, .int 0, .int 0, .int 0, .int 0])), (q1, .inl (cy G 0, 128, .inl (fun _ => 0))), (q2, .inl (cy G 0, 128, .inl (fun _ => 0))), (q3, .inl (cy G 0, 128, .inl (fun _ => 0))), (q4, .inl (cy G 0, 1024, .inl (fun _ => 0))), (q5, .inl (cy G 0, 4, .inl (fun _ => 0))), (q6, .inl (cy G 0, 4, .inl (f7)))]) H := hW
  refine lv_dup hx hb dX8_init_67 rfl ?_
  refine lv_iconst (v := 1) hx hb dX8_init_68 (by decide) ?_
  refine lv_sipush (v := 232) hx hb dX8_init_69 (by decide) ?_
  refine q_iastj C hW hS 6 rfl 1 (by decide) (vlit (by decide)) dX8_init_72 (fun f8 H locs ef8 hW hS => ?_)
  have hW : Wq G (W0 ++ [(h0, .inr (10, [.int 0, .int 0, .int (-1), .int (-1), .int 0, .ref q1, .ref q2, .ref q3, .ref q4, .ref q5, .null, .null, .null, .null, .null, .null, .int 0, .int 0, .int 0, .int 0, .int 0, .int 0])), (q1, .inl (cy G 0, 128, .inl (fun _ => 0))), (q2, .inl (cy G 0, 128, .inl (fun _ => 0))), (q3, .inl (cy G 0, 128, .inl (fun _ => 0))), (q4, .inl (cy G 0, 1024, .inl (fun _ => 0))), (q5, .inl (cy G 0, 4, .inl (fun _ => 0))), (q6, .inl (cy G 0, 4, .inl (f8)))]) H := hW
  refine lv_dup hx hb dX8_init_73 rfl ?_
  refine lv_iconst (v := 2) hx hb dX8_init_74 (by decide) ?_
  refine lv_sipush (v := 327) hx hb dX8_init_75 (by decide) ?_
  refine q_iastj C hW hS 6 rfl 2 (by decide) (vlit (by decide)) dX8_init_78 (fun f9 H locs ef9 hW hS => ?_)
  have hW : Wq G (W0 ++ [(h0, .inr (10, [.int 0, .int 0, .int (-1), .int (-1), .int 0, .ref q1, .ref q2, .ref q3, .ref q4, .ref q5, .null, .null, .null, .null, .null, .null, .int 0, .int 0, .int 0, .int 0, .int 0, .int 0])), (q1, .inl (cy G 0, 128, .inl (fun _ => 0))), (q2, .inl (cy G 0, 128, .inl (fun _ => 0))), (q3, .inl (cy G 0, 128, .inl (fun _ => 0))), (q4, .inl (cy G 0, 1024, .inl (fun _ => 0))), (q5, .inl (cy G 0, 4, .inl (fun _ => 0))), (q6, .inl (cy G 0, 4, .inl (f9)))]) H := hW
  refine lv_dup hx hb dX8_init_79 rfl ?_
  refine lv_iconst (v := 3) hx hb dX8_init_80 (by decide) ?_
  refine lv_sipush (v := 1200) hx hb dX8_init_81 (by decide) ?_
  refine q_iastj C hW hS 6 rfl 3 (by decide) (vlit (by decide)) dX8_init_84 (fun f10 H locs ef10 hW hS => ?_)
  have hW : Wq G (W0 ++ [(h0, .inr (10, [.int 0, .int 0, .int (-1), .int (-1), .int 0, .ref q1, .ref q2, .ref q3, .ref q4, .ref q5, .null, .null, .null, .null, .null, .null, .int 0, .int 0, .int 0, .int 0, .int 0, .int 0])), (q1, .inl (cy G 0, 128, .inl (fun _ => 0))), (q2, .inl (cy G 0, 128, .inl (fun _ => 0))), (q3, .inl (cy G 0, 128, .inl (fun _ => 0))), (q4, .inl (cy G 0, 1024, .inl (fun _ => 0))), (q5, .inl (cy G 0, 4, .inl (fun _ => 0))), (q6, .inl (cy G 0, 4, .inl (f10)))]) H := hW
  refine q_putF (ci := 10) (v := .ref q6) (ty := .array .int) C hW hS (hwc hwX8) tyX8 tyX8_ok nmX8 0 rfl rfl 10 (by decide) (mc qw_1486) (fun _ h9 => h9) rfl hnm rfl (by decide +kernel) rfl rfl (Nat.le_of_ble_eq_true rfl) dX8_init_85 (fun H locs hW hS => ?_)
  have hW : Wq G (W0 ++ [(h0, .inr (10, [.int 0, .int 0, .int (-1), .int (-1), .int 0, .ref q1, .ref q2, .ref q3, .ref q4, .ref q5, .ref q6, .null, .null, .null, .null, .null, .int 0, .int 0, .int 0, .int 0, .int 0, .int 0])), (q1, .inl (cy G 0, 128, .inl (fun _ => 0))), (q2, .inl (cy G 0, 128, .inl (fun _ => 0))), (q3, .inl (cy G 0, 128, .inl (fun _ => 0))), (q4, .inl (cy G 0, 1024, .inl (fun _ => 0))), (q5, .inl (cy G 0, 4, .inl (fun _ => 0))), (q6, .inl (cy G 0, 4, .inl (f10)))]) H := hW
  refine lv_aload_n hx hb dX8_init_88 rfl (lv_at hl 0 rfl) ?_
  refine lv_bipush (v := 60) hx hb dX8_init_89 (by decide) ?_
  refine q_newa (atype := .int) (a0 := (60, .inl (fun _ => 0))) (N' := 60) C hW hS hA rfl (mc qw_133) 0 rfl (fun cA => rfl) (by decide) rfl (by decide) (by decide) (by decide) dX8_init_91 (fun q11 H hW hS => ?_)
  have hW : Wq G (W0 ++ [(h0, .inr (10, [.int 0, .int 0, .int (-1), .int (-1), .int 0, .ref q1, .ref q2, .ref q3, .ref q4, .ref q5, .ref q6, .null, .null, .null, .null, .null, .int 0, .int 0, .int 0, .int 0, .int 0, .int 0])), (q1, .inl (cy G 0, 128, .inl (fun _ => 0))), (q2, .inl (cy G 0, 128, .inl (fun _ => 0))), (q3, .inl (cy G 0, 128, .inl (fun _ => 0))), (q4, .inl (cy G 0, 1024, .inl (fun _ => 0))), (q5, .inl (cy G 0, 4, .inl (fun _ => 0))), (q6, .inl (cy G 0, 4, .inl (f10))), (q11, .inl (cy G 0, 60, .inl (fun _ => 0)))]) H := hW
  refine q_putF (ci := 10) (v := .ref q11) (ty := .array .int) C hW hS (hwc hwX8) tyX8 tyX8_ok nmX8 0 rfl rfl 11 (by decide) (mc qw_1487) (fun _ h9 => h9) rfl hnm rfl (by decide +kernel) rfl rfl (Nat.le_of_ble_eq_true rfl) dX8_init_93 (fun H locs hW hS => ?_)
  have hW : Wq G (W0 ++ [(h0, .inr (10, [.int 0, .int 0, .int (-1), .int (-1), .int 0, .ref q1, .ref q2, .ref q3, .ref q4, .ref q5, .ref q6, .ref q11, .null, .null, .null, .null, .int 0, .int 0, .int 0, .int 0, .int 0, .int 0])), (q1, .inl (cy G 0, 128, .inl (fun _ => 0))), (q2, .inl (cy G 0, 128, .inl (fun _ => 0))), (q3, .inl (cy G 0, 128, .inl (fun _ => 0))), (q4, .inl (cy G 0, 1024, .inl (fun _ => 0))), (q5, .inl (cy G 0, 4, .inl (fun _ => 0))), (q6, .inl (cy G 0, 4, .inl (f10))), (q11, .inl (cy G 0, 60, .inl (fun _ => 0)))]) H := hW
  refine lv_aload_n hx hb dX8_init_96 rfl (lv_at hl 0 rfl) ?_
  refine lv_bipush (v := 40) hx hb dX8_init_97 (by decide) ?_
  refine q_newa (atype := .int) (a0 := (40, .inl (fun _ => 0))) (N' := 40) C hW hS hA rfl (mc qw_133) 0 rfl (fun cA => rfl) (by decide) rfl (by decide) (by decide) (by decide) dX8_init_99 (fun q12 H hW hS => ?_)
  have hW : Wq G (W0 ++ [(h0, .inr (10, [.int 0, .int 0, .int (-1), .int (-1), .int 0, .ref q1, .ref q2, .ref q3, .ref q4, .ref q5, .ref q6, .ref q11, .null, .null, .null, .null, .int 0, .int 0, .int 0, .int 0, .int 0, .int 0])), (q1, .inl (cy G 0, 128, .inl (fun _ => 0))), (q2, .inl (cy G 0, 128, .inl (fun _ => 0))), (q3, .inl (cy G 0, 128, .inl (fun _ => 0))), (q4, .inl (cy G 0, 1024, .inl (fun _ => 0))), (q5, .inl (cy G 0, 4, .inl (fun _ => 0))), (q6, .inl (cy G 0, 4, .inl (f10))), (q11, .inl (cy G 0, 60, .inl (fun _ => 0))), (q12, .inl (cy G 0, 40, .inl (fun _ => 0)))]) H := hW
  refine q_putF (ci := 10) (v := .ref q12) (ty := .array .int) C hW hS (hwc hwX8) tyX8 tyX8_ok nmX8 0 rfl rfl 12 (by decide) (mc qw_1488) (fun _ h9 => h9) rfl hnm rfl (by decide +kernel) rfl rfl (Nat.le_of_ble_eq_true rfl) dX8_init_101 (fun H locs hW hS => ?_)
  have hW : Wq G (W0 ++ [(h0, .inr (10, [.int 0, .int 0, .int (-1), .int (-1), .int 0, .ref q1, .ref q2, .ref q3, .ref q4, .ref q5, .ref q6, .ref q11, .ref q12, .null, .null, .null, .int 0, .int 0, .int 0, .int 0, .int 0, .int 0])), (q1, .inl (cy G 0, 128, .inl (fun _ => 0))), (q2, .inl (cy G 0, 128, .inl (fun _ => 0))), (q3, .inl (cy G 0, 128, .inl (fun _ => 0))), (q4, .inl (cy G 0, 1024, .inl (fun _ => 0))), (q5, .inl (cy G 0, 4, .inl (fun _ => 0))), (q6, .inl (cy G 0, 4, .inl (f10))), (q11, .inl (cy G 0, 60, .inl (fun _ => 0))), (q12, .inl (cy G 0, 40, .inl (fun _ => 0)))]) H := hW
  refine lv_aload_n hx hb dX8_init_104 rfl (lv_at hl 0 rfl) ?_
  refine lv_bipush (v := 10) hx hb dX8_init_105 (by decide) ?_
  refine q_newa (atype := .int) (a0 := (10, .inl (fun _ => 0))) (N' := 10) C hW hS hA rfl (mc qw_133) 0 rfl (fun cA => rfl) (by decide) rfl (by decide) (by decide) (by decide) dX8_init_107 (fun q13 H hW hS => ?_)
  have hW : Wq G (W0 ++ [(h0, .inr (10, [.int 0, .int 0, .int (-1), .int (-1), .int 0, .ref q1, .ref q2, .ref q3, .ref q4, .ref q5, .ref q6, .ref q11, .ref q12, .null, .null, .null, .int 0, .int 0, .int 0, .int 0, .int 0, .int 0])), (q1, .inl (cy G 0, 128, .inl (fun _ => 0))), (q2, .inl (cy G 0, 128, .inl (fun _ => 0))), (q3, .inl (cy G 0, 128, .inl (fun _ => 0))), (q4, .inl (cy G 0, 1024, .inl (fun _ => 0))), (q5, .inl (cy G 0, 4, .inl (fun _ => 0))), (q6, .inl (cy G 0, 4, .inl (f10))), (q11, .inl (cy G 0, 60, .inl (fun _ => 0))), (q12, .inl (cy G 0, 40, .inl (fun _ => 0))), (q13, .inl (cy G 0, 10, .inl (fun _ => 0)))]) H := hW
  refine q_putF (ci := 10) (v := .ref q13) (ty := .array .int) C hW hS (hwc hwX8) tyX8 tyX8_ok nmX8 0 rfl rfl 13 (by decide) (mc qw_1489) (fun _ h9 => h9) rfl hnm rfl (by decide +kernel) rfl rfl (Nat.le_of_ble_eq_true rfl) dX8_init_109 (fun H locs hW hS => ?_)
  have hW : Wq G (W0 ++ [(h0, .inr (10, [.int 0, .int 0, .int (-1), .int (-1), .int 0, .ref q1, .ref q2, .ref q3, .ref q4, .ref q5, .ref q6, .ref q11, .ref q12, .ref q13, .null, .null, .int 0, .int 0, .int 0, .int 0, .int 0, .int 0])), (q1, .inl (cy G 0, 128, .inl (fun _ => 0))), (q2, .inl (cy G 0, 128, .inl (fun _ => 0))), (q3, .inl (cy G 0, 128, .inl (fun _ => 0))), (q4, .inl (cy G 0, 1024, .inl (fun _ => 0))), (q5, .inl (cy G 0, 4, .inl (fun _ => 0))), (q6, .inl (cy G 0, 4, .inl (f10))), (q11, .inl (cy G 0, 60, .inl (fun _ => 0))), (q12, .inl (cy G 0, 40, .inl (fun _ => 0))), (q13, .inl (cy G 0, 10, .inl (fun _ => 0)))]) H := hW
  refine lv_aload_n hx hb dX8_init_112 rfl (lv_at hl 0 rfl) ?_
  refine lv_bipush (v := 53) hx hb dX8_init_113 (by decide) ?_
  refine q_newa (atype := .int) (a0 := (53, .inl (fun _ => 0))) (N' := 53) C hW hS hA rfl (mc qw_133) 0 rfl (fun cA => rfl) (by decide) rfl (by decide) (by decide) (by decide) dX8_init_115 (fun q14 H hW hS => ?_)
  have hW : Wq G (W0 ++ [(h0, .inr (10, [.int 0, .int 0, .int (-1), .int (-1), .int 0, .ref q1, .ref q2, .ref q3, .ref q4, .ref q5, .ref q6, .ref q11, .ref q12, .ref q13, .null, .null, .int 0, .int 0, .int 0, .int 0, .int 0, .int 0])), (q1, .inl (cy G 0, 128, .inl (fun _ => 0))), (q2, .inl (cy G 0, 128, .inl (fun _ => 0))), (q3, .inl (cy G 0, 128, .inl (fun _ => 0))), (q4, .inl (cy G 0, 1024, .inl (fun _ => 0))), (q5, .inl (cy G 0, 4, .inl (fun _ => 0))), (q6, .inl (cy G 0, 4, .inl (f10))), (q11, .inl (cy G 0, 60, .inl (fun _ => 0))), (q12, .inl (cy G 0, 40, .inl (fun _ => 0))), (q13, .inl (cy G 0, 10, .inl (fun _ => 0))), (q14, .inl (cy G 0, 53, .inl (fun _ => 0)))]) H := hW
  refine lv_dup hx hb dX8_init_117 rfl ?_
  refine lv_iconst (v := 0) hx hb dX8_init_118 (by decide) ?_
  refine lv_bipush (v := 99) hx hb dX8_init_119 (by decide) ?_
  refine q_iastj C hW hS 10 rfl 0 (by decide) (vlit (by decide)) dX8_init_121 (fun f15 H locs ef15 hW hS => ?_)
  have hW : Wq G (W0 ++ [(h0, .inr (10, [.int 0, .int 0, .int (-1), .int (-1), .int 0, .ref q1, .ref q2, .ref q3, .ref q4, .ref q5, .ref q6, .ref q11, .ref q12, .ref q13, .null, .null, .int 0, .int 0, .int 0, .int 0, .int 0, .int 0])), (q1, .inl (cy G 0, 128, .inl (fun _ => 0))), (q2, .inl (cy G 0, 128, .inl (fun _ => 0))), (q3, .inl (cy G 0, 128, .inl (fun _ => 0))), (q4, .inl (cy G 0, 1024, .inl (fun _ => 0))), (q5, .inl (cy G 0, 4, .inl (fun _ => 0))), (q6, .inl (cy G 0, 4, .inl (f10))), (q11, .inl (cy G 0, 60, .inl (fun _ => 0))), (q12, .inl (cy G 0, 40, .inl (fun _ => 0))), (q13, .inl (cy G 0, 10, .inl (fun _ => 0))), (q14, .inl (cy G 0, 53, .inl (f15)))]) H := hW
  refine lv_dup hx hb dX8_init_122 rfl ?_
  refine lv_iconst (v := 1) hx hb dX8_init_123 (by decide) ?_
  refine lv_bipush (v := 104) hx hb dX8_init_124 (by decide) ?_
  refine q_iastj C hW hS 10 rfl 1 (by decide) (vlit (by decide)) dX8_init_126 (fun f16 H locs ef16 hW hS => ?_)
  have hW : Wq G (W0 ++ [(h0, .inr (10, [.int 0, .int 0, .int (-1), .int (-1), .int 0, .ref q1, .ref q2, .ref q3, .ref q4, .ref q5, .ref q6, .ref q11, .ref q12, .ref q13, .null, .null, .int 0, .int 0, .int 0, .int 0, .int 0, .int 0])), (q1, .inl (cy G 0, 128, .inl (fun _ => 0))), (q2, .inl (cy G 0, 128, .inl (fun _ => 0))), (q3, .inl (cy G 0, 128, .inl (fun _ => 0))), (q4, .inl (cy G 0, 1024, .inl (fun _ => 0))), (q5, .inl (cy G 0, 4, .inl (fun _ => 0))), (q6, .inl (cy G 0, 4, .inl (f10))), (q11, .inl (cy G 0, 60, .inl (fun _ => 0))), (q12, .inl (cy G 0, 40, .inl (fun _ => 0))), (q13, .inl (cy G 0, 10, .inl (fun _ => 0))), (q14, .inl (cy G 0, 53, .inl (f16)))]) H := hW
  refine lv_dup hx hb dX8_init_127 rfl ?_
  refine lv_iconst (v := 2) hx hb dX8_init_128 (by decide) ?_
  refine lv_bipush (v := 97) hx hb dX8_init_129 (by decide) ?_
  refine q_iastj C hW hS 10 rfl 2 (by decide) (vlit (by decide)) dX8_init_131 (fun f17 H locs ef17 hW hS => ?_)
  have hW : Wq G (W0 ++ [(h0, .inr (10, [.int 0, .int 0, .int (-1), .int (-1), .int 0, .ref q1, .ref q2, .ref q3, .ref q4, .ref q5, .ref q6, .ref q11, .ref q12, .ref q13, .null, .null, .int 0, .int 0, .int 0, .int 0, .int 0, .int 0])), (q1, .inl (cy G 0, 128, .inl (fun _ => 0))), (q2, .inl (cy G 0, 128, .inl (fun _ => 0))), (q3, .inl (cy G 0, 128, .inl (fun _ => 0))), (q4, .inl (cy G 0, 1024, .inl (fun _ => 0))), (q5, .inl (cy G 0, 4, .inl (fun _ => 0))), (q6, .inl (cy G 0, 4, .inl (f10))), (q11, .inl (cy G 0, 60, .inl (fun _ => 0))), (q12, .inl (cy G 0, 40, .inl (fun _ => 0))), (q13, .inl (cy G 0, 10, .inl (fun _ => 0))), (q14, .inl (cy G 0, 53, .inl (f17)))]) H := hW
  refine lv_dup hx hb dX8_init_132 rfl ?_
  refine lv_iconst (v := 3) hx hb dX8_init_133 (by decide) ?_
  refine lv_bipush (v := 114) hx hb dX8_init_134 (by decide) ?_
  refine q_iastj C hW hS 10 rfl 3 (by decide) (vlit (by decide)) dX8_init_136 (fun f18 H locs ef18 hW hS => ?_)
  have hW : Wq G (W0 ++ [(h0, .inr (10, [.int 0, .int 0, .int (-1), .int (-1), .int 0, .ref q1, .ref q2, .ref q3, .ref q4, .ref q5, .ref q6, .ref q11, .ref q12, .ref q13, .null, .null, .int 0, .int 0, .int 0, .int 0, .int 0, .int 0])), (q1, .inl (cy G 0, 128, .inl (fun _ => 0))), (q2, .inl (cy G 0, 128, .inl (fun _ => 0))), (q3, .inl (cy G 0, 128, .inl (fun _ => 0))), (q4, .inl (cy G 0, 1024, .inl (fun _ => 0))), (q5, .inl (cy G 0, 4, .inl (fun _ => 0))), (q6, .inl (cy G 0, 4, .inl (f10))), (q11, .inl (cy G 0, 60, .inl (fun _ => 0))), (q12, .inl (cy G 0, 40, .inl (fun _ => 0))), (q13, .inl (cy G 0, 10, .inl (fun _ => 0))), (q14, .inl (cy G 0, 53, .inl (f18)))]) H := hW
  refine lv_dup hx hb dX8_init_137 rfl ?_
  refine lv_iconst (v := 4) hx hb dX8_init_138 (by decide) ?_
  refine lv_bipush (v := 103) hx hb dX8_init_139 (by decide) ?_
  refine q_iastj C hW hS 10 rfl 4 (by decide) (vlit (by decide)) dX8_init_141 (fun f19 H locs ef19 hW hS => ?_)
  have hW : Wq G (W0 ++ [(h0, .inr (10, [.int 0, .int 0, .int (-1), .int (-1), .int 0, .ref q1, .ref q2, .ref q3, .ref q4, .ref q5, .ref q6, .ref q11, .ref q12, .ref q13, .null, .null, .int 0, .int 0, .int 0, .int 0, .int 0, .int 0])), (q1, .inl (cy G 0, 128, .inl (fun _ => 0))), (q2, .inl (cy G 0, 128, .inl (fun _ => 0))), (q3, .inl (cy G 0, 128, .inl (fun _ => 0))), (q4, .inl (cy G 0, 1024, .inl (fun _ => 0))), (q5, .inl (cy G 0, 4, .inl (fun _ => 0))), (q6, .inl (cy G 0, 4, .inl (f10))), (q11, .inl (cy G 0, 60, .inl (fun _ => 0))), (q12, .inl (cy G 0, 40, .inl (fun _ => 0))), (q13, .inl (cy G 0, 10, .inl (fun _ => 0))), (q14, .inl (cy G 0, 53, .inl (f19)))]) H := hW
  refine lv_dup hx hb dX8_init_142 rfl ?_
  refine lv_iconst (v := 5) hx hb dX8_init_143 (by decide) ?_
  refine lv_bipush (v := 101) hx hb dX8_init_144 (by decide) ?_
  refine q_iastj C hW hS 10 rfl 5 (by decide) (vlit (by decide)) dX8_init_146 (fun f20 H locs ef20 hW hS => ?_)
  have hW : Wq G (W0 ++ [(h0, .inr (10, [.int 0, .int 0, .int (-1), .int (-1), .int 0, .ref q1, .ref q2, .ref q3, .ref q4, .ref q5, .ref q6, .ref q11, .ref q12, .ref q13, .null, .null, .int 0, .int 0, .int 0, .int 0, .int 0, .int 0])), (q1, .inl (cy G 0, 128, .inl (fun _ => 0))), (q2, .inl (cy G 0, 128, .inl (fun _ => 0))), (q3, .inl (cy G 0, 128, .inl (fun _ => 0))), (q4, .inl (cy G 0, 1024, .inl (fun _ => 0))), (q5, .inl (cy G 0, 4, .inl (fun _ => 0))), (q6, .inl (cy G 0, 4, .inl (f10))), (q11, .inl (cy G 0, 60, .inl (fun _ => 0))), (q12, .inl (cy G 0, 40, .inl (fun _ => 0))), (q13, .inl (cy G 0, 10, .inl (fun _ => 0))), (q14, .inl (cy G 0, 53, .inl (f20)))]) H := hW
  refine lv_dup hx hb dX8_init_147 rfl ?_
  refine lv_bipush (v := 6) hx hb dX8_init_148 (by decide) ?_
  refine lv_bipush (v := 32) hx hb dX8_init_150 (by decide) ?_
  refine q_iastj C hW hS 10 rfl 6 (by decide) (vlit (by decide)) dX8_init_152 (fun f21 H locs ef21 hW hS => ?_)
  have hW : Wq G (W0 ++ [(h0, .inr (10, [.int 0, .int 0, .int (-1), .int (-1), .int 0, .ref q1, .ref q2, .ref q3, .ref q4, .ref q5, .ref q6, .ref q11, .ref q12, .ref q13, .null, .null, .int 0, .int 0, .int 0, .int 0, .int 0, .int 0])), (q1, .inl (cy G 0, 128, .inl (fun _ => 0))), (q2, .inl (cy G 0, 128, .inl (fun _ => 0))), (q3, .inl (cy G 0, 128, .inl (fun _ => 0))), (q4, .inl (cy G 0, 1024, .inl (fun _ => 0))), (q5, .inl (cy G 0, 4, .inl (fun _ => 0))), (q6, .inl (cy G 0, 4, .inl (f10))), (q11, .inl (cy G 0, 60, .inl (fun _ => 0))), (q12, .inl (cy G 0, 40, .inl (fun _ => 0))), (q13, .inl (cy G 0, 10, .inl (fun _ => 0))), (q14, .inl (cy G 0, 53, .inl (f21)))]) H := hW
  refine lv_dup hx hb dX8_init_153 rfl ?_
  refine lv_bipush (v := 7) hx hb dX8_init_154 (by decide) ?_
  refine lv_bipush (v := 102) hx hb dX8_init_156 (by decide) ?_
  refine q_iastj C hW hS 10 rfl 7 (by decide) (vlit (by decide)) dX8_init_158 (fun f22 H locs ef22 hW hS => ?_)
  have hW : Wq G (W0 ++ [(h0, .inr (10, [.int 0, .int 0, .int (-1), .int (-1), .int 0, .ref q1, .ref q2, .ref q3, .ref q4, .ref q5, .ref q6, .ref q11, .ref q12, .ref q13, .null, .null, .int 0, .int 0, .int 0, .int 0, .int 0, .int 0])), (q1, .inl (cy G 0, 128, .inl (fun _ => 0))), (q2, .inl (cy G 0, 128, .inl (fun _ => 0))), (q3, .inl (cy G 0, 128, .inl (fun _ => 0))), (q4, .inl (cy G 0, 1024, .inl (fun _ => 0))), (q5, .inl (cy G 0, 4, .inl (fun _ => 0))), (q6, .inl (cy G 0, 4, .inl (f10))), (q11, .inl (cy G 0, 60, .inl (fun _ => 0))), (q12, .inl (cy G 0, 40, .inl (fun _ => 0))), (q13, .inl (cy G 0, 10, .inl (fun _ => 0))), (q14, .inl (cy G 0, 53, .inl (f22)))]) H := hW
  refine lv_dup hx hb dX8_init_159 rfl ?_
  refine lv_bipush (v := 8) hx hb dX8_init_160 (by decide) ?_
  refine lv_bipush (v := 105) hx hb dX8_init_162 (by decide) ?_
  refine q_iastj C hW hS 10 rfl 8 (by decide) (vlit (by decide)) dX8_init_164 (fun f23 H locs ef23 hW hS => ?_)
  have hW : Wq G (W0 ++ [(h0, .inr (10, [.int 0, .int 0, .int (-1), .int (-1), .int 0, .ref q1, .ref q2, .ref q3, .ref q4, .ref q5, .ref q6, .ref q11, .ref q12, .ref q13, .null, .null, .int 0, .int 0, .int 0, .int 0, .int 0, .int 0])), (q1, .inl (cy G 0, 128, .inl (fun _ => 0))), (q2, .inl (cy G 0, 128, .inl (fun _ => 0))), (q3, .inl (cy G 0, 128, .inl (fun _ => 0))), (q4, .inl (cy G 0, 1024, .inl (fun _ => 0))), (q5, .inl (cy G 0, 4, .inl (fun _ => 0))), (q6, .inl (cy G 0, 4, .inl (f10))), (q11, .inl (cy G 0, 60, .inl (fun _ => 0))), (q12, .inl (cy G 0, 40, .inl (fun _ => 0))), (q13, .inl (cy G 0, 10, .inl (fun _ => 0))), (q14, .inl (cy G 0, 53, .inl (f23)))]) H := hW
  refine lv_dup hx hb dX8_init_165 rfl ?_
  refine lv_bipush (v := 9) hx hb dX8_init_166 (by decide) ?_
  refine lv_bipush (v := 114) hx hb dX8_init_168 (by decide) ?_
  refine q_iastj C hW hS 10 rfl 9 (by decide) (vlit (by decide)) dX8_init_170 (fun f24 H locs ef24 hW hS => ?_)
  have hW : Wq G (W0 ++ [(h0, .inr (10, [.int 0, .int 0, .int (-1), .int (-1), .int 0, .ref q1, .ref q2, .ref q3, .ref q4, .ref q5, .ref q6, .ref q11, .ref q12, .ref q13, .null, .null, .int 0, .int 0, .int 0, .int 0, .int 0, .int 0])), (q1, .inl (cy G 0, 128, .inl (fun _ => 0))), (q2, .inl (cy G 0, 128, .inl (fun _ => 0))), (q3, .inl (cy G 0, 128, .inl (fun _ => 0))), (q4, .inl (cy G 0, 1024, .inl (fun _ => 0))), (q5, .inl (cy G 0, 4, .inl (fun _ => 0))), (q6, .inl (cy G 0, 4, .inl (f10))), (q11, .inl (cy G 0, 60, .inl (fun _ => 0))), (q12, .inl (cy G 0, 40, .inl (fun _ => 0))), (q13, .inl (cy G 0, 10, .inl (fun _ => 0))), (q14, .inl (cy G 0, 53, .inl (f24)))]) H := hW
  refine lv_dup hx hb dX8_init_171 rfl ?_
  refine lv_bipush (v := 10) hx hb dX8_init_172 (by decide) ?_
  refine lv_bipush (v := 101) hx hb dX8_init_174 (by decide) ?_
  refine q_iastj C hW hS 10 rfl 10 (by decide) (vlit (by decide)) dX8_init_176 (fun f25 H locs ef25 hW hS => ?_)
  have hW : Wq G (W0 ++ [(h0, .inr (10, [.int 0, .int 0, .int (-1), .int (-1), .int 0, .ref q1, .ref q2, .ref q3, .ref q4, .ref q5, .ref q6, .ref q11, .ref q12, .ref q13, .null, .null, .int 0, .int 0, .int 0, .int 0, .int 0, .int 0])), (q1, .inl (cy G 0, 128, .inl (fun _ => 0))), (q2, .inl (cy G 0, 128, .inl (fun _ => 0))), (q3, .inl (cy G 0, 128, .inl (fun _ => 0))), (q4, .inl (cy G 0, 1024, .inl (fun _ => 0))), (q5, .inl (cy G 0, 4, .inl (fun _ => 0))), (q6, .inl (cy G 0, 4, .inl (f10))), (q11, .inl (cy G 0, 60, .inl (fun _ => 0))), (q12, .inl (cy G 0, 40, .inl (fun _ => 0))), (q13, .inl (cy G 0, 10, .inl (fun _ => 0))), (q14, .inl (cy G 0, 53, .inl (f25)))]) H := hW
  refine lv_dup hx hb dX8_init_177 rfl ?_
  refine lv_bipush (v := 11) hx hb dX8_init_178 (by decide) ?_
  refine lv_bipush (v := 32) hx hb dX8_init_180 (by decide) ?_
  refine q_iastj C hW hS 10 rfl 11 (by decide) (vlit (by decide)) dX8_init_182 (fun f26 H locs ef26 hW hS => ?_)
  have hW : Wq G (W0 ++ [(h0, .inr (10, [.int 0, .int 0, .int (-1), .int (-1), .int 0, .ref q1, .ref q2, .ref q3, .ref q4, .ref q5, .ref q6, .ref q11, .ref q12, .ref q13, .null, .null, .int 0, .int 0, .int 0, .int 0, .int 0, .int 0])), (q1, .inl (cy G 0, 128, .inl (fun _ => 0))), (q2, .inl (cy G 0, 128, .inl (fun _ => 0))), (q3, .inl (cy G 0, 128, .inl (fun _ => 0))), (q4, .inl (cy G 0, 1024, .inl (fun _ => 0))), (q5, .inl (cy G 0, 4, .inl (fun _ => 0))), (q6, .inl (cy G 0, 4, .inl (f10))), (q11, .inl (cy G 0, 60, .inl (fun _ => 0))), (q12, .inl (cy G 0, 40, .inl (fun _ => 0))), (q13, .inl (cy G 0, 10, .inl (fun _ => 0))), (q14, .inl (cy G 0, 53, .inl (f26)))]) H := hW
  refine lv_dup hx hb dX8_init_183 rfl ?_
  refine lv_bipush (v := 12) hx hb dX8_init_184 (by decide) ?_
  refine lv_bipush (v := 115) hx hb dX8_init_186 (by decide) ?_
  refine q_iastj C hW hS 10 rfl 12 (by decide) (vlit (by decide)) dX8_init_188 (fun f27 H locs ef27 hW hS => ?_)
  have hW : Wq G (W0 ++ [(h0, .inr (10, [.int 0, .int 0, .int (-1), .int (-1), .int 0, .ref q1, .ref q2, .ref q3, .ref q4, .ref q5, .ref q6, .ref q11, .ref q12, .ref q13, .null, .null, .int 0, .int 0, .int 0, .int 0, .int 0, .int 0])), (q1, .inl (cy G 0, 128, .inl (fun _ => 0))), (q2, .inl (cy G 0, 128, .inl (fun _ => 0))), (q3, .inl (cy G 0, 128, .inl (fun _ => 0))), (q4, .inl (cy G 0, 1024, .inl (fun _ => 0))), (q5, .inl (cy G 0, 4, .inl (fun _ => 0))), (q6, .inl (cy G 0, 4, .inl (f10))), (q11, .inl (cy G 0, 60, .inl (fun _ => 0))), (q12, .inl (cy G 0, 40, .inl (fun _ => 0))), (q13, .inl (cy G 0, 10, .inl (fun _ => 0))), (q14, .inl (cy G 0, 53, .inl (f27)))]) H := hW
  refine lv_dup hx hb dX8_init_189 rfl ?_
  refine lv_bipush (v := 13) hx hb dX8_init_190 (by decide) ?_
  refine lv_bipush (v := 107) hx hb dX8_init_192 (by decide) ?_
  refine q_iastj C hW hS 10 rfl 13 (by decide) (vlit (by decide)) dX8_init_194 (fun f28 H locs ef28 hW hS => ?_)
  have hW : Wq G (W0 ++ [(h0, .inr (10, [.int 0, .int 0, .int (-1), .int (-1), .int 0, .ref q1, .ref q2, .ref q3, .ref q4, .ref q5, .ref q6, .ref q11, .ref q12, .ref q13, .null, .null, .int 0, .int 0, .int 0, .int 0, .int 0, .int 0])), (q1, .inl (cy G 0, 128, .inl (fun _ => 0))), (q2, .inl (cy G 0, 128, .inl (fun _ => 0))), (q3, .inl (cy G 0, 128, .inl (fun _ => 0))), (q4, .inl (cy G 0, 1024, .inl (fun _ => 0))), (q5, .inl (cy G 0, 4, .inl (fun _ => 0))), (q6, .inl (cy G 0, 4, .inl (f10))), (q11, .inl (cy G 0, 60, .inl (fun _ => 0))), (q12, .inl (cy G 0, 40, .inl (fun _ => 0))), (q13, .inl (cy G 0, 10, .inl (fun _ => 0))), (q14, .inl (cy G 0, 53, .inl (f28)))]) H := hW
  refine lv_dup hx hb dX8_init_195 rfl ?_
  refine lv_bipush (v := 14) hx hb dX8_init_196 (by decide) ?_
  refine lv_bipush (v := 105) hx hb dX8_init_198 (by decide) ?_
  refine q_iastj C hW hS 10 rfl 14 (by decide) (vlit (by decide)) dX8_init_200 (fun f29 H locs ef29 hW hS => ?_)
  have hW : Wq G (W0 ++ [(h0, .inr (10, [.int 0, .int 0, .int (-1), .int (-1), .int 0, .ref q1, .ref q2, .ref q3, .ref q4, .ref q5, .ref q6, .ref q11, .ref q12, .ref q13, .null, .null, .int 0, .int 0, .int 0, .int 0, .int 0, .int 0])), (q1, .inl (cy G 0, 128, .inl (fun _ => 0))), (q2, .inl (cy G 0, 128, .inl (fun _ => 0))), (q3, .inl (cy G 0, 128, .inl (fun _ => 0))), (q4, .inl (cy G 0, 1024, .inl (fun _ => 0))), (q5, .inl (cy G 0, 4, .inl (fun _ => 0))), (q6, .inl (cy G 0, 4, .inl (f10))), (q11, .inl (cy G 0, 60, .inl (fun _ => 0))), (q12, .inl (cy G 0, 40, .inl (fun _ => 0))), (q13, .inl (cy G 0, 10, .inl (fun _ => 0))), (q14, .inl (cy G 0, 53, .inl (f29)))]) H := hW
  refine lv_dup hx hb dX8_init_201 rfl ?_
  refine lv_bipush (v := 15) hx hb dX8_init_202 (by decide) ?_
  refine lv_bipush (v := 109) hx hb dX8_init_204 (by decide) ?_
  refine q_iastj C hW hS 10 rfl 15 (by decide) (vlit (by decide)) dX8_init_206 (fun f30 H locs ef30 hW hS => ?_)
  have hW : Wq G (W0 ++ [(h0, .inr (10, [.int 0, .int 0, .int (-1), .int (-1), .int 0, .ref q1, .ref q2, .ref q3, .ref q4, .ref q5, .ref q6, .ref q11, .ref q12, .ref q13, .null, .null, .int 0, .int 0, .int 0, .int 0, .int 0, .int 0])), (q1, .inl (cy G 0, 128, .inl (fun _ => 0))), (q2, .inl (cy G 0, 128, .inl (fun _ => 0))), (q3, .inl (cy G 0, 128, .inl (fun _ => 0))), (q4, .inl (cy G 0, 1024, .inl (fun _ => 0))), (q5, .inl (cy G 0, 4, .inl (fun _ => 0))), (q6, .inl (cy G 0, 4, .inl (f10))), (q11, .inl (cy G 0, 60, .inl (fun _ => 0))), (q12, .inl (cy G 0, 40, .inl (fun _ => 0))), (q13, .inl (cy G 0, 10, .inl (fun _ => 0))), (q14, .inl (cy G 0, 53, .inl (f30)))]) H := hW
  refine lv_dup hx hb dX8_init_207 rfl ?_
  refine lv_bipush (v := 16) hx hb dX8_init_208 (by decide) ?_
  refine lv_bipush (v := 32) hx hb dX8_init_210 (by decide) ?_
  refine q_iastj C hW hS 10 rfl 16 (by decide) (vlit (by decide)) dX8_init_212 (fun f31 H locs ef31 hW hS => ?_)
  have hW : Wq G (W0 ++ [(h0, .inr (10, [.int 0, .int 0, .int (-1), .int (-1), .int 0, .ref q1, .ref q2, .ref q3, .ref q4, .ref q5, .ref q6, .ref q11, .ref q12, .ref q13, .null, .null, .int 0, .int 0, .int 0, .int 0, .int 0, .int 0])), (q1, .inl (cy G 0, 128, .inl (fun _ => 0))), (q2, .inl (cy G 0, 128, .inl (fun _ => 0))), (q3, .inl (cy G 0, 128, .inl (fun _ => 0))), (q4, .inl (cy G 0, 1024, .inl (fun _ => 0))), (q5, .inl (cy G 0, 4, .inl (fun _ => 0))), (q6, .inl (cy G 0, 4, .inl (f10))), (q11, .inl (cy G 0, 60, .inl (fun _ => 0))), (q12, .inl (cy G 0, 40, .inl (fun _ => 0))), (q13, .inl (cy G 0, 10, .inl (fun _ => 0))), (q14, .inl (cy G 0, 53, .inl (f31)))]) H := hW
  refine lv_dup hx hb dX8_init_213 rfl ?_
  refine lv_bipush (v := 17) hx hb dX8_init_214 (by decide) ?_
  refine lv_bipush (v := 116) hx hb dX8_init_216 (by decide) ?_
  refine q_iastj C hW hS 10 rfl 17 (by decide) (vlit (by decide)) dX8_init_218 (fun f32 H locs ef32 hW hS => ?_)
  have hW : Wq G (W0 ++ [(h0, .inr (10, [.int 0, .int 0, .int (-1), .int (-1), .int 0, .ref q1, .ref q2, .ref q3, .ref q4, .ref q5, .ref q6, .ref q11, .ref q12, .ref q13, .null, .null, .int 0, .int 0, .int 0, .int 0, .int 0, .int 0])), (q1, .inl (cy G 0, 128, .inl (fun _ => 0))), (q2, .inl (cy G 0, 128, .inl (fun _ => 0))), (q3, .inl (cy G 0, 128, .inl (fun _ => 0))), (q4, .inl (cy G 0, 1024, .inl (fun _ => 0))), (q5, .inl (cy G 0, 4, .inl (fun _ => 0))), (q6, .inl (cy G 0, 4, .inl (f10))), (q11, .inl (cy G 0, 60, .inl (fun _ => 0))), (q12, .inl (cy G 0, 40, .inl (fun _ => 0))), (q13, .inl (cy G 0, 10, .inl (fun _ => 0))), (q14, .inl (cy G 0, 53, .inl (f32)))]) H := hW
  refine lv_dup hx hb dX8_init_219 rfl ?_
  refine lv_bipush (v := 18) hx hb dX8_init_220 (by decide) ?_
  refine lv_bipush (v := 97) hx hb dX8_init_222 (by decide) ?_
  refine q_iastj C hW hS 10 rfl 18 (by decide) (vlit (by decide)) dX8_init_224 (fun f33 H locs ef33 hW hS => ?_)
  have hW : Wq G (W0 ++ [(h0, .inr (10, [.int 0, .int 0, .int (-1), .int (-1), .int 0, .ref q1, .ref q2, .ref q3, .ref q4, .ref q5, .ref q6, .ref q11, .ref q12, .ref q13, .null, .null, .int 0, .int 0, .int 0, .int 0, .int 0, .int 0])), (q1, .inl (cy G 0, 128, .inl (fun _ => 0))), (q2, .inl (cy G 0, 128, .inl (fun _ => 0))), (q3, .inl (cy G 0, 128, .inl (fun _ => 0))), (q4, .inl (cy G 0, 1024, .inl (fun _ => 0))), (q5, .inl (cy G 0, 4, .inl (fun _ => 0))), (q6, .inl (cy G 0, 4, .inl (f10))), (q11, .inl (cy G 0, 60, .inl (fun _ => 0))), (q12, .inl (cy G 0, 40, .inl (fun _ => 0))), (q13, .inl (cy G 0, 10, .inl (fun _ => 0))), (q14, .inl (cy G 0, 53, .inl (f33)))]) H := hW
  refine lv_dup hx hb dX8_init_225 rfl ?_
  refine lv_bipush (v := 19) hx hb dX8_init_226 (by decide) ?_
  refine lv_bipush (v := 112) hx hb dX8_init_228 (by decide) ?_
  refine q_iastj C hW hS 10 rfl 19 (by decide) (vlit (by decide)) dX8_init_230 (fun f34 H locs ef34 hW hS => ?_)
  have hW : Wq G (W0 ++ [(h0, .inr (10, [.int 0, .int 0, .int (-1), .int (-1), .int 0, .ref q1, .ref q2, .ref q3, .ref q4, .ref q5, .ref q6, .ref q11, .ref q12, .ref q13, .null, .null, .int 0, .int 0, .int 0, .int 0, .int 0, .int 0])), (q1, .inl (cy G 0, 128, .inl (fun _ => 0))), (q2, .inl (cy G 0, 128, .inl (fun _ => 0))), (q3, .inl (cy G 0, 128, .inl (fun _ => 0))), (q4, .inl (cy G 0, 1024, .inl (fun _ => 0))), (q5, .inl (cy G 0, 4, .inl (fun _ => 0))), (q6, .inl (cy G 0, 4, .inl (f10))), (q11, .inl (cy G 0, 60, .inl (fun _ => 0))), (q12, .inl (cy G 0, 40, .inl (fun _ => 0))), (q13, .inl (cy G 0, 10, .inl (fun _ => 0))), (q14, .inl (cy G 0, 53, .inl (f34)))]) H := hW
  refine lv_dup hx hb dX8_init_231 rfl ?_
  refine lv_bipush (v := 20) hx hb dX8_init_232 (by decide) ?_
  refine lv_bipush (v := 32) hx hb dX8_init_234 (by decide) ?_
  refine q_iastj C hW hS 10 rfl 20 (by decide) (vlit (by decide)) dX8_init_236 (fun f35 H locs ef35 hW hS => ?_)
  have hW : Wq G (W0 ++ [(h0, .inr (10, [.int 0, .int 0, .int (-1), .int (-1), .int 0, .ref q1, .ref q2, .ref q3, .ref q4, .ref q5, .ref q6, .ref q11, .ref q12, .ref q13, .null, .null, .int 0, .int 0, .int 0, .int 0, .int 0, .int 0])), (q1, .inl (cy G 0, 128, .inl (fun _ => 0))), (q2, .inl (cy G 0, 128, .inl (fun _ => 0))), (q3, .inl (cy G 0, 128, .inl (fun _ => 0))), (q4, .inl (cy G 0, 1024, .inl (fun _ => 0))), (q5, .inl (cy G 0, 4, .inl (fun _ => 0))), (q6, .inl (cy G 0, 4, .inl (f10))), (q11, .inl (cy G 0, 60, .inl (fun _ => 0))), (q12, .inl (cy G 0, 40, .inl (fun _ => 0))), (q13, .inl (cy G 0, 10, .inl (fun _ => 0))), (q14, .inl (cy G 0, 53, .inl (f35)))]) H := hW
  refine lv_dup hx hb dX8_init_237 rfl ?_
  refine lv_bipush (v := 21) hx hb dX8_init_238 (by decide) ?_
  refine lv_bipush (v := 98) hx hb dX8_init_240 (by decide) ?_
  refine q_iastj C hW hS 10 rfl 21 (by decide) (vlit (by decide)) dX8_init_242 (fun f36 H locs ef36 hW hS => ?_)
  have hW : Wq G (W0 ++ [(h0, .inr (10, [.int 0, .int 0, .int (-1), .int (-1), .int 0, .ref q1, .ref q2, .ref q3, .ref q4, .ref q5, .ref q6, .ref q11, .ref q12, .ref q13, .null, .null, .int 0, .int 0, .int 0, .int 0, .int 0, .int 0])), (q1, .inl (cy G 0, 128, .inl (fun _ => 0))), (q2, .inl (cy G 0, 128, .inl (fun _ => 0))), (q3, .inl (cy G 0, 128, .inl (fun _ => 0))), (q4, .inl (cy G 0, 1024, .inl (fun _ => 0))), (q5, .inl (cy G 0, 4, .inl (fun _ => 0))), (q6, .inl (cy G 0, 4, .inl (f10))), (q11, .inl (cy G 0, 60, .inl (fun _ => 0))), (q12, .inl (cy G 0, 40, .inl (fun _ => 0))), (q13, .inl (cy G 0, 10, .inl (fun _ => 0))), (q14, .inl (cy G 0, 53, .inl (f36)))]) H := hW
  refine lv_dup hx hb dX8_init_243 rfl ?_
  refine lv_bipush (v := 22) hx hb dX8_init_244 (by decide) ?_
  refine lv_bipush (v := 97) hx hb dX8_init_246 (by decide) ?_
  refine q_iastj C hW hS 10 rfl 22 (by decide) (vlit (by decide)) dX8_init_248 (fun f37 H locs ef37 hW hS => ?_)
  have hW : Wq G (W0 ++ [(h0, .inr (10, [.int 0, .int 0, .int (-1), .int (-1), .int 0, .ref q1, .ref q2, .ref q3, .ref q4, .ref q5, .ref q6, .ref q11, .ref q12, .ref q13, .null, .null, .int 0, .int 0, .int 0, .int 0, .int 0, .int 0])), (q1, .inl (cy G 0, 128, .inl (fun _ => 0))), (q2, .inl (cy G 0, 128, .inl (fun _ => 0))), (q3, .inl (cy G 0, 128, .inl (fun _ => 0))), (q4, .inl (cy G 0, 1024, .inl (fun _ => 0))), (q5, .inl (cy G 0, 4, .inl (fun _ => 0))), (q6, .inl (cy G 0, 4, .inl (f10))), (q11, .inl (cy G 0, 60, .inl (fun _ => 0))), (q12, .inl (cy G 0, 40, .inl (fun _ => 0))), (q13, .inl (cy G 0, 10, .inl (fun _ => 0))), (q14, .inl (cy G 0, 53, .inl (f37)))]) H := hW
  refine lv_dup hx hb dX8_init_249 rfl ?_
  refine lv_bipush (v := 23) hx hb dX8_init_250 (by decide) ?_
  refine lv_bipush (v := 99) hx hb dX8_init_252 (by decide) ?_
  refine q_iastj C hW hS 10 rfl 23 (by decide) (vlit (by decide)) dX8_init_254 (fun f38 H locs ef38 hW hS => ?_)
  have hW : Wq G (W0 ++ [(h0, .inr (10, [.int 0, .int 0, .int (-1), .int (-1), .int 0, .ref q1, .ref q2, .ref q3, .ref q4, .ref q5, .ref q6, .ref q11, .ref q12, .ref q13, .null, .null, .int 0, .int 0, .int 0, .int 0, .int 0, .int 0])), (q1, .inl (cy G 0, 128, .inl (fun _ => 0))), (q2, .inl (cy G 0, 128, .inl (fun _ => 0))), (q3, .inl (cy G 0, 128, .inl (fun _ => 0))), (q4, .inl (cy G 0, 1024, .inl (fun _ => 0))), (q5, .inl (cy G 0, 4, .inl (fun _ => 0))), (q6, .inl (cy G 0, 4, .inl (f10))), (q11, .inl (cy G 0, 60, .inl (fun _ => 0))), (q12, .inl (cy G 0, 40, .inl (fun _ => 0))), (q13, .inl (cy G 0, 10, .inl (fun _ => 0))), (q14, .inl (cy G 0, 53, .inl (f38)))]) H := hW
  refine lv_dup hx hb dX8_init_255 rfl ?_
  refine lv_bipush (v := 24) hx hb dX8_init_256 (by decide) ?_
  refine lv_bipush (v := 107) hx hb dX8_init_258 (by decide) ?_
  refine q_iastj C hW hS 10 rfl 24 (by decide) (vlit (by decide)) dX8_init_260 (fun f39 H locs ef39 hW hS => ?_)
  have hW : Wq G (W0 ++ [(h0, .inr (10, [.int 0, .int 0, .int (-1), .int (-1), .int 0, .ref q1, .ref q2, .ref q3, .ref q4, .ref q5, .ref q6, .ref q11, .ref q12, .ref q13, .null, .null, .int 0, .int 0, .int 0, .int 0, .int 0, .int 0])), (q1, .inl (cy G 0, 128, .inl (fun _ => 0))), (q2, .inl (cy G 0, 128, .inl (fun _ => 0))), (q3, .inl (cy G 0, 128, .inl (fun _ => 0))), (q4, .inl (cy G 0, 1024, .inl (fun _ => 0))), (q5, .inl (cy G 0, 4, .inl (fun _ => 0))), (q6, .inl (cy G 0, 4, .inl (f10))), (q11, .inl (cy G 0, 60, .inl (fun _ => 0))), (q12, .inl (cy G 0, 40, .inl (fun _ => 0))), (q13, .inl (cy G 0, 10, .inl (fun _ => 0))), (q14, .inl (cy G 0, 53, .inl (f39)))]) H := hW
  refine lv_dup hx hb dX8_init_261 rfl ?_
  refine lv_bipush (v := 25) hx hb dX8_init_262 (by decide) ?_
  refine lv_bipush (v := 32) hx hb dX8_init_264 (by decide) ?_
  refine q_iastj C hW hS 10 rfl 25 (by decide) (vlit (by decide)) dX8_init_266 (fun f40 H locs ef40 hW hS => ?_)
  have hW : Wq G (W0 ++ [(h0, .inr (10, [.int 0, .int 0, .int (-1), .int (-1), .int 0, .ref q1, .ref q2, .ref q3, .ref q4, .ref q5, .ref q6, .ref q11, .ref q12, .ref q13, .null, .null, .int 0, .int 0, .int 0, .int 0, .int 0, .int 0])), (q1, .inl (cy G 0, 128, .inl (fun _ => 0))), (q2, .inl (cy G 0, 128, .inl (fun _ => 0))), (q3, .inl (cy G 0, 128, .inl (fun _ => 0))), (q4, .inl (cy G 0, 1024, .inl (fun _ => 0))), (q5, .inl (cy G 0, 4, .inl (fun _ => 0))), (q6, .inl (cy G 0, 4, .inl (f10))), (q11, .inl (cy G 0, 60, .inl (fun _ => 0))), (q12, .inl (cy G 0, 40, .inl (fun _ => 0))), (q13, .inl (cy G 0, 10, .inl (fun _ => 0))), (q14, .inl (cy G 0, 53, .inl (f40)))]) H := hW
  refine lv_dup hx hb dX8_init_267 rfl ?_
  refine lv_bipush (v := 26) hx hb dX8_init_268 (by decide) ?_
  refine lv_bipush (v := 109) hx hb dX8_init_270 (by decide) ?_
  refine q_iastj C hW hS 10 rfl 26 (by decide) (vlit (by decide)) dX8_init_272 (fun f41 H locs ef41 hW hS => ?_)
  have hW : Wq G (W0 ++ [(h0, .inr (10, [.int 0, .int 0, .int (-1), .int (-1), .int 0, .ref q1, .ref q2, .ref q3, .ref q4, .ref q5, .ref q6, .ref q11, .ref q12, .ref q13, .null, .null, .int 0, .int 0, .int 0, .int 0, .int 0, .int 0])), (q1, .inl (cy G 0, 128, .inl (fun _ => 0))), (q2, .inl (cy G 0, 128, .inl (fun _ => 0))), (q3, .inl (cy G 0, 128, .inl (fun _ => 0))), (q4, .inl (cy G 0, 1024, .inl (fun _ => 0))), (q5, .inl (cy G 0, 4, .inl (fun _ => 0))), (q6, .inl (cy G 0, 4, .inl (f10))), (q11, .inl (cy G 0, 60, .inl (fun _ => 0))), (q12, .inl (cy G 0, 40, .inl (fun _ => 0))), (q13, .inl (cy G 0, 10, .inl (fun _ => 0))), (q14, .inl (cy G 0, 53, .inl (f41)))]) H := hW
  refine lv_dup hx hb dX8_init_273 rfl ?_
  refine lv_bipush (v := 27) hx hb dX8_init_274 (by decide) ?_
  refine lv_bipush (v := 111) hx hb dX8_init_276 (by decide) ?_
  refine q_iastj C hW hS 10 rfl 27 (by decide) (vlit (by decide)) dX8_init_278 (fun f42 H locs ef42 hW hS => ?_)
  have hW : Wq G (W0 ++ [(h0, .inr (10, [.int 0, .int 0, .int (-1), .int (-1), .int 0, .ref q1, .ref q2, .ref q3, .ref q4, .ref q5, .ref q6, .ref q11, .ref q12, .ref q13, .null, .null, .int 0, .int 0, .int 0, .int 0, .int 0, .int 0])), (q1, .inl (cy G 0, 128, .inl (fun _ => 0))), (q2, .inl (cy G 0, 128, .inl (fun _ => 0))), (q3, .inl (cy G 0, 128, .inl (fun _ => 0))), (q4, .inl (cy G 0, 1024, .inl (fun _ => 0))), (q5, .inl (cy G 0, 4, .inl (fun _ => 0))), (q6, .inl (cy G 0, 4, .inl (f10))), (q11, .inl (cy G 0, 60, .inl (fun _ => 0))), (q12, .inl (cy G 0, 40, .inl (fun _ => 0))), (q13, .inl (cy G 0, 10, .inl (fun _ => 0))), (q14, .inl (cy G 0, 53, .inl (f42)))]) H := hW
  refine lv_dup hx hb dX8_init_279 rfl ?_
  refine lv_bipush (v := 28) hx hb dX8_init_280 (by decide) ?_
  refine lv_bipush (v := 117) hx hb dX8_init_282 (by decide) ?_
  refine q_iastj C hW hS 10 rfl 28 (by decide) (vlit (by decide)) dX8_init_284 (fun f43 H locs ef43 hW hS => ?_)
  have hW : Wq G (W0 ++ [(h0, .inr (10, [.int 0, .int 0, .int (-1), .int (-1), .int 0, .ref q1, .ref q2, .ref q3, .ref q4, .ref q5, .ref q6, .ref q11, .ref q12, .ref q13, .null, .null, .int 0, .int 0, .int 0, .int 0, .int 0, .int 0])), (q1, .inl (cy G 0, 128, .inl (fun _ => 0))), (q2, .inl (cy G 0, 128, .inl (fun _ => 0))), (q3, .inl (cy G 0, 128, .inl (fun _ => 0))), (q4, .inl (cy G 0, 1024, .inl (fun _ => 0))), (q5, .inl (cy G 0, 4, .inl (fun _ => 0))), (q6, .inl (cy G 0, 4, .inl (f10))), (q11, .inl (cy G 0, 60, .inl (fun _ => 0))), (q12, .inl (cy G 0, 40, .inl (fun _ => 0))), (q13, .inl (cy G 0, 10, .inl (fun _ => 0))), (q14, .inl (cy G 0, 53, .inl (f43)))]) H := hW
  refine lv_dup hx hb dX8_init_285 rfl ?_
  refine lv_bipush (v := 29) hx hb dX8_init_286 (by decide) ?_
  refine lv_bipush (v := 108) hx hb dX8_init_288 (by decide) ?_
  refine q_iastj C hW hS 10 rfl 29 (by decide) (vlit (by decide)) dX8_init_290 (fun f44 H locs ef44 hW hS => ?_)
  have hW : Wq G (W0 ++ [(h0, .inr (10, [.int 0, .int 0, .int (-1), .int (-1), .int 0, .ref q1, .ref q2, .ref q3, .ref q4, .ref q5, .ref q6, .ref q11, .ref q12, .ref q13, .null, .null, .int 0, .int 0, .int 0, .int 0, .int 0, .int 0])), (q1, .inl (cy G 0, 128, .inl (fun _ => 0))), (q2, .inl (cy G 0, 128, .inl (fun _ => 0))), (q3, .inl (cy G 0, 128, .inl (fun _ => 0))), (q4, .inl (cy G 0, 1024, .inl (fun _ => 0))), (q5, .inl (cy G 0, 4, .inl (fun _ => 0))), (q6, .inl (cy G 0, 4, .inl (f10))), (q11, .inl (cy G 0, 60, .inl (fun _ => 0))), (q12, .inl (cy G 0, 40, .inl (fun _ => 0))), (q13, .inl (cy G 0, 10, .inl (fun _ => 0))), (q14, .inl (cy G 0, 53, .inl (f44)))]) H := hW
  refine lv_dup hx hb dX8_init_291 rfl ?_
  refine lv_bipush (v := 30) hx hb dX8_init_292 (by decide) ?_
  refine lv_bipush (v := 100) hx hb dX8_init_294 (by decide) ?_
  refine q_iastj C hW hS 10 rfl 30 (by decide) (vlit (by decide)) dX8_init_296 (fun f45 H locs ef45 hW hS => ?_)
  have hW : Wq G (W0 ++ [(h0, .inr (10, [.int 0, .int 0, .int (-1), .int (-1), .int 0, .ref q1, .ref q2, .ref q3, .ref q4, .ref q5, .ref q6, .ref q11, .ref q12, .ref q13, .null, .null, .int 0, .int 0, .int 0, .int 0, .int 0, .int 0])), (q1, .inl (cy G 0, 128, .inl (fun _ => 0))), (q2, .inl (cy G 0, 128, .inl (fun _ => 0))), (q3, .inl (cy G 0, 128, .inl (fun _ => 0))), (q4, .inl (cy G 0, 1024, .inl (fun _ => 0))), (q5, .inl (cy G 0, 4, .inl (fun _ => 0))), (q6, .inl (cy G 0, 4, .inl (f10))), (q11, .inl (cy G 0, 60, .inl (fun _ => 0))), (q12, .inl (cy G 0, 40, .inl (fun _ => 0))), (q13, .inl (cy G 0, 10, .inl (fun _ => 0))), (q14, .inl (cy G 0, 53, .inl (f45)))]) H := hW
  refine lv_dup hx hb dX8_init_297 rfl ?_
  refine lv_bipush (v := 31) hx hb dX8_init_298 (by decide) ?_
  refine lv_bipush (v := 32) hx hb dX8_init_300 (by decide) ?_
  refine q_iastj C hW hS 10 rfl 31 (by decide) (vlit (by decide)) dX8_init_302 (fun f46 H locs ef46 hW hS => ?_)
  have hW : Wq G (W0 ++ [(h0, .inr (10, [.int 0, .int 0, .int (-1), .int (-1), .int 0, .ref q1, .ref q2, .ref q3, .ref q4, .ref q5, .ref q6, .ref q11, .ref q12, .ref q13, .null, .null, .int 0, .int 0, .int 0, .int 0, .int 0, .int 0])), (q1, .inl (cy G 0, 128, .inl (fun _ => 0))), (q2, .inl (cy G 0, 128, .inl (fun _ => 0))), (q3, .inl (cy G 0, 128, .inl (fun _ => 0))), (q4, .inl (cy G 0, 1024, .inl (fun _ => 0))), (q5, .inl (cy G 0, 4, .inl (fun _ => 0))), (q6, .inl (cy G 0, 4, .inl (f10))), (q11, .inl (cy G 0, 60, .inl (fun _ => 0))), (q12, .inl (cy G 0, 40, .inl (fun _ => 0))), (q13, .inl (cy G 0, 10, .inl (fun _ => 0))), (q14, .inl (cy G 0, 53, .inl (f46)))]) H := hW
  refine lv_dup hx hb dX8_init_303 rfl ?_
  refine lv_bipush (v := 32) hx hb dX8_init_304 (by decide) ?_
  refine lv_bipush (v := 112) hx hb dX8_init_306 (by decide) ?_
  refine q_iastj C hW hS 10 rfl 32 (by decide) (vlit (by decide)) dX8_init_308 (fun f47 H locs ef47 hW hS => ?_)
  have hW : Wq G (W0 ++ [(h0, .inr (10, [.int 0, .int 0, .int (-1), .int (-1), .int 0, .ref q1, .ref q2, .ref q3, .ref q4, .ref q5, .ref q6, .ref q11, .ref q12, .ref q13, .null, .null, .int 0, .int 0, .int 0, .int 0, .int 0, .int 0])), (q1, .inl (cy G 0, 128, .inl (fun _ => 0))), (q2, .inl (cy G 0, 128, .inl (fun _ => 0))), (q3, .inl (cy G 0, 128, .inl (fun _ => 0))), (q4, .inl (cy G 0, 1024, .inl (fun _ => 0))), (q5, .inl (cy G 0, 4, .inl (fun _ => 0))), (q6, .inl (cy G 0, 4, .inl (f10))), (q11, .inl (cy G 0, 60, .inl (fun _ => 0))), (q12, .inl (cy G 0, 40, .inl (fun _ => 0))), (q13, .inl (cy G 0, 10, .inl (fun _ => 0))), (q14, .inl (cy G 0, 53, .inl (f47)))]) H := hW
  refine lv_dup hx hb dX8_init_309 rfl ?_
  refine lv_bipush (v := 33) hx hb dX8_init_310 (by decide) ?_
  refine lv_bipush (v := 111) hx hb dX8_init_312 (by decide) ?_
  refine q_iastj C hW hS 10 rfl 33 (by decide) (vlit (by decide)) dX8_init_314 (fun f48 H locs ef48 hW hS => ?_)
  have hW : Wq G (W0 ++ [(h0, .inr (10, [.int 0, .int 0, .int (-1), .int (-1), .int 0, .ref q1, .ref q2, .ref q3, .ref q4, .ref q5, .ref q6, .ref q11, .ref q12, .ref q13, .null, .null, .int 0, .int 0, .int 0, .int 0, .int 0, .int 0])), (q1, .inl (cy G 0, 128, .inl (fun _ => 0))), (q2, .inl (cy G 0, 128, .inl (fun _ => 0))), (q3, .inl (cy G 0, 128, .inl (fun _ => 0))), (q4, .inl (cy G 0, 1024, .inl (fun _ => 0))), (q5, .inl (cy G 0, 4, .inl (fun _ => 0))), (q6, .inl (cy G 0, 4, .inl (f10))), (q11, .inl (cy G 0, 60, .inl (fun _ => 0))), (q12, .inl (cy G 0, 40, .inl (fun _ => 0))), (q13, .inl (cy G 0, 10, .inl (fun _ => 0))), (q14, .inl (cy G 0, 53, .inl (f48)))]) H := hW
  refine lv_dup hx hb dX8_init_315 rfl ?_
  refine lv_bipush (v := 34) hx hb dX8_init_316 (by decide) ?_
  refine lv_bipush (v := 117) hx hb dX8_init_318 (by decide) ?_
  refine q_iastj C hW hS 10 rfl 34 (by decide) (vlit (by decide)) dX8_init_320 (fun f49 H locs ef49 hW hS => ?_)
  have hW : Wq G (W0 ++ [(h0, .inr (10, [.int 0, .int 0, .int (-1), .int (-1), .int 0, .ref q1, .ref q2, .ref q3, .ref q4, .ref q5, .ref q6, .ref q11, .ref q12, .ref q13, .null, .null, .int 0, .int 0, .int 0, .int 0, .int 0, .int 0])), (q1, .inl (cy G 0, 128, .inl (fun _ => 0))), (q2, .inl (cy G 0, 128, .inl (fun _ => 0))), (q3, .inl (cy G 0, 128, .inl (fun _ => 0))), (q4, .inl (cy G 0, 1024, .inl (fun _ => 0))), (q5, .inl (cy G 0, 4, .inl (fun _ => 0))), (q6, .inl (cy G 0, 4, .inl (f10))), (q11, .inl (cy G 0, 60, .inl (fun _ => 0))), (q12, .inl (cy G 0, 40, .inl (fun _ => 0))), (q13, .inl (cy G 0, 10, .inl (fun _ => 0))), (q14, .inl (cy G 0, 53, .inl (f49)))]) H := hW
  refine lv_dup hx hb dX8_init_321 rfl ?_
  refine lv_bipush (v := 35) hx hb dX8_init_322 (by decide) ?_
  refine lv_bipush (v := 114) hx hb dX8_init_324 (by decide) ?_
  refine q_iastj C hW hS 10 rfl 35 (by decide) (vlit (by decide)) dX8_init_326 (fun f50 H locs ef50 hW hS => ?_)
  have hW : Wq G (W0 ++ [(h0, .inr (10, [.int 0, .int 0, .int (-1), .int (-1), .int 0, .ref q1, .ref q2, .ref q3, .ref q4, .ref q5, .ref q6, .ref q11, .ref q12, .ref q13, .null, .null, .int 0, .int 0, .int 0, .int 0, .int 0, .int 0])), (q1, .inl (cy G 0, 128, .inl (fun _ => 0))), (q2, .inl (cy G 0, 128, .inl (fun _ => 0))), (q3, .inl (cy G 0, 128, .inl (fun _ => 0))), (q4, .inl (cy G 0, 1024, .inl (fun _ => 0))), (q5, .inl (cy G 0, 4, .inl (fun _ => 0))), (q6, .inl (cy G 0, 4, .inl (f10))), (q11, .inl (cy G 0, 60, .inl (fun _ => 0))), (q12, .inl (cy G 0, 40, .inl (fun _ => 0))), (q13, .inl (cy G 0, 10, .inl (fun _ => 0))), (q14, .inl (cy G 0, 53, .inl (f50)))]) H := hW
  refine lv_dup hx hb dX8_init_327 rfl ?_
  refine lv_bipush (v := 36) hx hb dX8_init_328 (by decide) ?_
  refine lv_bipush (v := 32) hx hb dX8_init_330 (by decide) ?_
  refine q_iastj C hW hS 10 rfl 36 (by decide) (vlit (by decide)) dX8_init_332 (fun f51 H locs ef51 hW hS => ?_)
  have hW : Wq G (W0 ++ [(h0, .inr (10, [.int 0, .int 0, .int (-1), .int (-1), .int 0, .ref q1, .ref q2, .ref q3, .ref q4, .ref q5, .ref q6, .ref q11, .ref q12, .ref q13, .null, .null, .int 0, .int 0, .int 0, .int 0, .int 0, .int 0])), (q1, .inl (cy G 0, 128, .inl (fun _ => 0))), (q2, .inl (cy G 0, 128, .inl (fun _ => 0))), (q3, .inl (cy G 0, 128, .inl (fun _ => 0))), (q4, .inl (cy G 0, 1024, .inl (fun _ => 0))), (q5, .inl (cy G 0, 4, .inl (fun _ => 0))), (q6, .inl (cy G 0, 4, .inl (f10))), (q11, .inl (cy G 0, 60, .inl (fun _ => 0))), (q12, .inl (cy G 0, 40, .inl (fun _ => 0))), (q13, .inl (cy G 0, 10, .inl (fun _ => 0))), (q14, .inl (cy G 0, 53, .inl (f51)))]) H := hW
  refine lv_dup hx hb dX8_init_333 rfl ?_
  refine lv_bipush (v := 37) hx hb dX8_init_334 (by decide) ?_
  refine lv_bipush (v := 98) hx hb dX8_init_336 (by decide) ?_
  refine q_iastj C hW hS 10 rfl 37 (by decide) (vlit (by decide)) dX8_init_338 (fun f52 H locs ef52 hW hS => ?_)
  have hW : Wq G (W0 ++ [(h0, .inr (10, [.int 0, .int 0, .int (-1), .int (-1), .int 0, .ref q1, .ref q2, .ref q3, .ref q4, .ref q5, .ref q6, .ref q11, .ref q12, .ref q13, .null, .null, .int 0, .int 0, .int 0, .int 0, .int 0, .int 0])), (q1, .inl (cy G 0, 128, .inl (fun _ => 0))), (q2, .inl (cy G 0, 128, .inl (fun _ => 0))), (q3, .inl (cy G 0, 128, .inl (fun _ => 0))), (q4, .inl (cy G 0, 1024, .inl (fun _ => 0))), (q5, .inl (cy G 0, 4, .inl (fun _ => 0))), (q6, .inl (cy G 0, 4, .inl (f10))), (q11, .inl (cy G 0, 60, .inl (fun _ => 0))), (q12, .inl (cy G 0, 40, .inl (fun _ => 0))), (q13, .inl (cy G 0, 10, .inl (fun _ => 0))), (q14, .inl (cy G 0, 53, .inl (f52)))]) H := hW
  refine lv_dup hx hb dX8_init_339 rfl ?_
  refine lv_bipush (v := 38) hx hb dX8_init_340 (by decide) ?_
  refine lv_bipush (v := 114) hx hb dX8_init_342 (by decide) ?_
  refine q_iastj C hW hS 10 rfl 38 (by decide) (vlit (by decide)) dX8_init_344 (fun f53 H locs ef53 hW hS => ?_)
  have hW : Wq G (W0 ++ [(h0, .inr (10, [.int 0, .int 0, .int (-1), .int (-1), .int 0, .ref q1, .ref q2, .ref q3, .ref q4, .ref q5, .ref q6, .ref q11, .ref q12, .ref q13, .null, .null, .int 0, .int 0, .int 0, .int 0, .int 0, .int 0])), (q1, .inl (cy G 0, 128, .inl (fun _ => 0))), (q2, .inl (cy G 0, 128, .inl (fun _ => 0))), (q3, .inl (cy G 0, 128, .inl (fun _ => 0))), (q4, .inl (cy G 0, 1024, .inl (fun _ => 0))), (q5, .inl (cy G 0, 4, .inl (fun _ => 0))), (q6, .inl (cy G 0, 4, .inl (f10))), (q11, .inl (cy G 0, 60, .inl (fun _ => 0))), (q12, .inl (cy G 0, 40, .inl (fun _ => 0))), (q13, .inl (cy G 0, 10, .inl (fun _ => 0))), (q14, .inl (cy G 0, 53, .inl (f53)))]) H := hW
  refine lv_dup hx hb dX8_init_345 rfl ?_
  refine lv_bipush (v := 39) hx hb dX8_init_346 (by decide) ?_
  refine lv_bipush (v := 101) hx hb dX8_init_348 (by decide) ?_
  refine q_iastj C hW hS 10 rfl 39 (by decide) (vlit (by decide)) dX8_init_350 (fun f54 H locs ef54 hW hS => ?_)
  have hW : Wq G (W0 ++ [(h0, .inr (10, [.int 0, .int 0, .int (-1), .int (-1), .int 0, .ref q1, .ref q2, .ref q3, .ref q4, .ref q5, .ref q6, .ref q11, .ref q12, .ref q13, .null, .null, .int 0, .int 0, .int 0, .int 0, .int 0, .int 0])), (q1, .inl (cy G 0, 128, .inl (fun _ => 0))), (q2, .inl (cy G 0, 128, .inl (fun _ => 0))), (q3, .inl (cy G 0, 128, .inl (fun _ => 0))), (q4, .inl (cy G 0, 1024, .inl (fun _ => 0))), (q5, .inl (cy G 0, 4, .inl (fun _ => 0))), (q6, .inl (cy G 0, 4, .inl (f10))), (q11, .inl (cy G 0, 60, .inl (fun _ => 0))), (q12, .inl (cy G 0, 40, .inl (fun _ => 0))), (q13, .inl (cy G 0, 10, .inl (fun _ => 0))), (q14, .inl (cy G 0, 53, .inl (f54)))]) H := hW
  refine lv_dup hx hb dX8_init_351 rfl ?_
  refine lv_bipush (v := 40) hx hb dX8_init_352 (by decide) ?_
  refine lv_bipush (v := 97) hx hb dX8_init_354 (by decide) ?_
  refine q_iastj C hW hS 10 rfl 40 (by decide) (vlit (by decide)) dX8_init_356 (fun f55 H locs ef55 hW hS => ?_)
  have hW : Wq G (W0 ++ [(h0, .inr (10, [.int 0, .int 0, .int (-1), .int (-1), .int 0, .ref q1, .ref q2, .ref q3, .ref q4, .ref q5, .ref q6, .ref q11, .ref q12, .ref q13, .null, .null, .int 0, .int 0, .int 0, .int 0, .int 0, .int 0])), (q1, .inl (cy G 0, 128, .inl (fun _ => 0))), (q2, .inl (cy G 0, 128, .inl (fun _ => 0))), (q3, .inl (cy G 0, 128, .inl (fun _ => 0))), (q4, .inl (cy G 0, 1024, .inl (fun _ => 0))), (q5, .inl (cy G 0, 4, .inl (fun _ => 0))), (q6, .inl (cy G 0, 4, .inl (f10))), (q11, .inl (cy G 0, 60, .inl (fun _ => 0))), (q12, .inl (cy G 0, 40, .inl (fun _ => 0))), (q13, .inl (cy G 0, 10, .inl (fun _ => 0))), (q14, .inl (cy G 0, 53, .inl (f55)))]) H := hW
  refine lv_dup hx hb dX8_init_357 rfl ?_
  refine lv_bipush (v := 41) hx hb dX8_init_358 (by decide) ?_
  refine lv_bipush (v := 107) hx hb dX8_init_360 (by decide) ?_
  refine q_iastj C hW hS 10 rfl 41 (by decide) (vlit (by decide)) dX8_init_362 (fun f56 H locs ef56 hW hS => ?_)
  have hW : Wq G (W0 ++ [(h0, .inr (10, [.int 0, .int 0, .int (-1), .int (-1), .int 0, .ref q1, .ref q2, .ref q3, .ref q4, .ref q5, .ref q6, .ref q11, .ref q12, .ref q13, .null, .null, .int 0, .int 0, .int 0, .int 0, .int 0, .int 0])), (q1, .inl (cy G 0, 128, .inl (fun _ => 0))), (q2, .inl (cy G 0, 128, .inl (fun _ => 0))), (q3, .inl (cy G 0, 128, .inl (fun _ => 0))), (q4, .inl (cy G 0, 1024, .inl (fun _ => 0))), (q5, .inl (cy G 0, 4, .inl (fun _ => 0))), (q6, .inl (cy G 0, 4, .inl (f10))), (q11, .inl (cy G 0, 60, .inl (fun _ => 0))), (q12, .inl (cy G 0, 40, .inl (fun _ => 0))), (q13, .inl (cy G 0, 10, .inl (fun _ => 0))), (q14, .inl (cy G 0, 53, .inl (f56)))]) H := hW
  refine lv_dup hx hb dX8_init_363 rfl ?_
  refine lv_bipush (v := 42) hx hb dX8_init_364 (by decide) ?_
  refine lv_bipush (v := 32) hx hb dX8_init_366 (by decide) ?_
  refine q_iastj C hW hS 10 rfl 42 (by decide) (vlit (by decide)) dX8_init_368 (fun f57 H locs ef57 hW hS => ?_)
  have hW : Wq G (W0 ++ [(h0, .inr (10, [.int 0, .int 0, .int (-1), .int (-1), .int 0, .ref q1, .ref q2, .ref q3, .ref q4, .ref q5, .ref q6, .ref q11, .ref q12, .ref q13, .null, .null, .int 0, .int 0, .int 0, .int 0, .int 0, .int 0])), (q1, .inl (cy G 0, 128, .inl (fun _ => 0))), (q2, .inl (cy G 0, 128, .inl (fun _ => 0))), (q3, .inl (cy G 0, 128, .inl (fun _ => 0))), (q4, .inl (cy G 0, 1024, .inl (fun _ => 0))), (q5, .inl (cy G 0, 4, .inl (fun _ => 0))), (q6, .inl (cy G 0, 4, .inl (f10))), (q11, .inl (cy G 0, 60, .inl (fun _ => 0))), (q12, .inl (cy G 0, 40, .inl (fun _ => 0))), (q13, .inl (cy G 0, 10, .inl (fun _ => 0))), (q14, .inl (cy G 0, 53, .inl (f57)))]) H := hW
  refine lv_dup hx hb dX8_init_369 rfl ?_
  refine lv_bipush (v := 43) hx hb dX8_init_370 (by decide) ?_
  refine lv_bipush (v := 109) hx hb dX8_init_372 (by decide) ?_
  refine q_iastj C hW hS 10 rfl 43 (by decide) (vlit (by decide)) dX8_init_374 (fun f58 H locs ef58 hW hS => ?_)
  have hW : Wq G (W0 ++ [(h0, .inr (10, [.int 0, .int 0, .int (-1), .int (-1), .int 0, .ref q1, .ref q2, .ref q3, .ref q4, .ref q5, .ref q6, .ref q11, .ref q12, .ref q13, .null, .null, .int 0, .int 0, .int 0, .int 0, .int 0, .int 0])), (q1, .inl (cy G 0, 128, .inl (fun _ => 0))), (q2, .inl (cy G 0, 128, .inl (fun _ => 0))), (q3, .inl (cy G 0, 128, .inl (fun _ => 0))), (q4, .inl (cy G 0, 1024, .inl (fun _ => 0))), (q5, .inl (cy G 0, 4, .inl (fun _ => 0))), (q6, .inl (cy G 0, 4, .inl (f10))), (q11, .inl (cy G 0, 60, .inl (fun _ => 0))), (q12, .inl (cy G 0, 40, .inl (fun _ => 0))), (q13, .inl (cy G 0, 10, .inl (fun _ => 0))), (q14, .inl (cy G 0, 53, .inl (f58)))]) H := hW
  refine lv_dup hx hb dX8_init_375 rfl ?_
  refine lv_bipush (v := 44) hx hb dX8_init_376 (by decide) ?_
  refine lv_bipush (v := 101) hx hb dX8_init_378 (by decide) ?_
  refine q_iastj C hW hS 10 rfl 44 (by decide) (vlit (by decide)) dX8_init_380 (fun f59 H locs ef59 hW hS => ?_)
  have hW : Wq G (W0 ++ [(h0, .inr (10, [.int 0, .int 0, .int (-1), .int (-1), .int 0, .ref q1, .ref q2, .ref q3, .ref q4, .ref q5, .ref q6, .ref q11, .ref q12, .ref q13, .null, .null, .int 0, .int 0, .int 0, .int 0, .int 0, .int 0])), (q1, .inl (cy G 0, 128, .inl (fun _ => 0))), (q2, .inl (cy G 0, 128, .inl (fun _ => 0))), (q3, .inl (cy G 0, 128, .inl (fun _ => 0))), (q4, .inl (cy G 0, 1024, .inl (fun _ => 0))), (q5, .inl (cy G 0, 4, .inl (fun _ => 0))), (q6, .inl (cy G 0, 4, .inl (f10))), (q11, .inl (cy G 0, 60, .inl (fun _ => 0))), (q12, .inl (cy G 0, 40, .inl (fun _ => 0))), (q13, .inl (cy G 0, 10, .inl (fun _ => 0))), (q14, .inl (cy G 0, 53, .inl (f59)))]) H := hW
  refine lv_dup hx hb dX8_init_381 rfl ?_
  refine lv_bipush (v := 45) hx hb dX8_init_382 (by decide) ?_
  refine lv_bipush (v := 108) hx hb dX8_init_384 (by decide) ?_
  refine q_iastj C hW hS 10 rfl 45 (by decide) (vlit (by decide)) dX8_init_386 (fun f60 H locs ef60 hW hS => ?_)
  have hW : Wq G (W0 ++ [(h0, .inr (10, [.int 0, .int 0, .int (-1), .int (-1), .int 0, .ref q1, .ref q2, .ref q3, .ref q4, .ref q5, .ref q6, .ref q11, .ref q12, .ref q13, .null, .null, .int 0, .int 0, .int 0, .int 0, .int 0, .int 0])), (q1, .inl (cy G 0, 128, .inl (fun _ => 0))), (q2, .inl (cy G 0, 128, .inl (fun _ => 0))), (q3, .inl (cy G 0, 128, .inl (fun _ => 0))), (q4, .inl (cy G 0, 1024, .inl (fun _ => 0))), (q5, .inl (cy G 0, 4, .inl (fun _ => 0))), (q6, .inl (cy G 0, 4, .inl (f10))), (q11, .inl (cy G 0, 60, .inl (fun _ => 0))), (q12, .inl (cy G 0, 40, .inl (fun _ => 0))), (q13, .inl (cy G 0, 10, .inl (fun _ => 0))), (q14, .inl (cy G 0, 53, .inl (f60)))]) H := hW
  refine lv_dup hx hb dX8_init_387 rfl ?_
  refine lv_bipush (v := 46) hx hb dX8_init_388 (by decide) ?_
  refine lv_bipush (v := 116) hx hb dX8_init_390 (by decide) ?_
  refine q_iastj C hW hS 10 rfl 46 (by decide) (vlit (by decide)) dX8_init_392 (fun f61 H locs ef61 hW hS => ?_)
  have hW : Wq G (W0 ++ [(h0, .inr (10, [.int 0, .int 0, .int (-1), .int (-1), .int 0, .ref q1, .ref q2, .ref q3, .ref q4, .ref q5, .ref q6, .ref q11, .ref q12, .ref q13, .null, .null, .int 0, .int 0, .int 0, .int 0, .int 0, .int 0])), (q1, .inl (cy G 0, 128, .inl (fun _ => 0))), (q2, .inl (cy G 0, 128, .inl (fun _ => 0))), (q3, .inl (cy G 0, 128, .inl (fun _ => 0))), (q4, .inl (cy G 0, 1024, .inl (fun _ => 0))), (q5, .inl (cy G 0, 4, .inl (fun _ => 0))), (q6, .inl (cy G 0, 4, .inl (f10))), (q11, .inl (cy G 0, 60, .inl (fun _ => 0))), (q12, .inl (cy G 0, 40, .inl (fun _ => 0))), (q13, .inl (cy G 0, 10, .inl (fun _ => 0))), (q14, .inl (cy G 0, 53, .inl (f61)))]) H := hW
  refine lv_dup hx hb dX8_init_393 rfl ?_
  refine lv_bipush (v := 47) hx hb dX8_init_394 (by decide) ?_
  refine lv_bipush (v := 32) hx hb dX8_init_396 (by decide) ?_
  refine q_iastj C hW hS 10 rfl 47 (by decide) (vlit (by decide)) dX8_init_398 (fun f62 H locs ef62 hW hS => ?_)
  have hW : Wq G (W0 ++ [(h0, .inr (10, [.int 0, .int 0, .int (-1), .int (-1), .int 0, .ref q1, .ref q2, .ref q3, .ref q4, .ref q5, .ref q6, .ref q11, .ref q12, .ref q13, .null, .null, .int 0, .int 0, .int 0, .int 0, .int 0, .int 0])), (q1, .inl (cy G 0, 128, .inl (fun _ => 0))), (q2, .inl (cy G 0, 128, .inl (fun _ => 0))), (q3, .inl (cy G 0, 128, .inl (fun _ => 0))), (q4, .inl (cy G 0, 1024, .inl (fun _ => 0))), (q5, .inl (cy G 0, 4, .inl (fun _ => 0))), (q6, .inl (cy G 0, 4, .inl (f10))), (q11, .inl (cy G 0, 60, .inl (fun _ => 0))), (q12, .inl (cy G 0, 40, .inl (fun _ => 0))), (q13, .inl (cy G 0, 10, .inl (fun _ => 0))), (q14, .inl (cy G 0, 53, .inl (f62)))]) H := hW
  refine lv_dup hx hb dX8_init_399 rfl ?_
  refine lv_bipush (v := 48) hx hb dX8_init_400 (by decide) ?_
  refine lv_bipush (v := 119) hx hb dX8_init_402 (by decide) ?_
  refine q_iastj C hW hS 10 rfl 48 (by decide) (vlit (by decide)) dX8_init_404 (fun f63 H locs ef63 hW hS => ?_)
  have hW : Wq G (W0 ++ [(h0, .inr (10, [.int 0, .int 0, .int (-1), .int (-1), .int 0, .ref q1, .ref q2, .ref q3, .ref q4, .ref q5, .ref q6, .ref q11, .ref q12, .ref q13, .null, .null, .int 0, .int 0, .int 0, .int 0, .int 0, .int 0])), (q1, .inl (cy G 0, 128, .inl (fun _ => 0))), (q2, .inl (cy G 0, 128, .inl (fun _ => 0))), (q3, .inl (cy G 0, 128, .inl (fun _ => 0))), (q4, .inl (cy G 0, 1024, .inl (fun _ => 0))), (q5, .inl (cy G 0, 4, .inl (fun _ => 0))), (q6, .inl (cy G 0, 4, .inl (f10))), (q11, .inl (cy G 0, 60, .inl (fun _ => 0))), (q12, .inl (cy G 0, 40, .inl (fun _ => 0))), (q13, .inl (cy G 0, 10, .inl (fun _ => 0))), (q14, .inl (cy G 0, 53, .inl (f63)))]) H := hW
  refine lv_dup hx hb dX8_init_405 rfl ?_
  refine lv_bipush (v := 49) hx hb dX8_init_406 (by decide) ?_
  refine lv_bipush (v := 97) hx hb dX8_init_408 (by decide) ?_
  refine q_iastj C hW hS 10 rfl 49 (by decide) (vlit (by decide)) dX8_init_410 (fun f64 H locs ef64 hW hS => ?_)
  have hW : Wq G (W0 ++ [(h0, .inr (10, [.int 0, .int 0, .int (-1), .int (-1), .int 0, .ref q1, .ref q2, .ref q3, .ref q4, .ref q5, .ref q6, .ref q11, .ref q12, .ref q13, .null, .null, .int 0, .int 0, .int 0, .int 0, .int 0, .int 0])), (q1, .inl (cy G 0, 128, .inl (fun _ => 0))), (q2, .inl (cy G 0, 128, .inl (fun _ => 0))), (q3, .inl (cy G 0, 128, .inl (fun _ => 0))), (q4, .inl (cy G 0, 1024, .inl (fun _ => 0))), (q5, .inl (cy G 0, 4, .inl (fun _ => 0))), (q6, .inl (cy G 0, 4, .inl (f10))), (q11, .inl (cy G 0, 60, .inl (fun _ => 0))), (q12, .inl (cy G 0, 40, .inl (fun _ => 0))), (q13, .inl (cy G 0, 10, .inl (fun _ => 0))), (q14, .inl (cy G 0, 53, .inl (f64)))]) H := hW
  refine lv_dup hx hb dX8_init_411 rfl ?_
  refine lv_bipush (v := 50) hx hb dX8_init_412 (by decide) ?_
  refine lv_bipush (v := 105) hx hb dX8_init_414 (by decide) ?_
  refine q_iastj C hW hS 10 rfl 50 (by decide) (vlit (by decide)) dX8_init_416 (fun f65 H locs ef65 hW hS => ?_)
  have hW : Wq G (W0 ++ [(h0, .inr (10, [.int 0, .int 0, .int (-1), .int (-1), .int 0, .ref q1, .ref q2, .ref q3, .ref q4, .ref q5, .ref q6, .ref q11, .ref q12, .ref q13, .null, .null, .int 0, .int 0, .int 0, .int 0, .int 0, .int 0])), (q1, .inl (cy G 0, 128, .inl (fun _ => 0))), (q2, .inl (cy G 0, 128, .inl (fun _ => 0))), (q3, .inl (cy G 0, 128, .inl (fun _ => 0))), (q4, .inl (cy G 0, 1024, .inl (fun _ => 0))), (q5, .inl (cy G 0, 4, .inl (fun _ => 0))), (q6, .inl (cy G 0, 4, .inl (f10))), (q11, .inl (cy G 0, 60, .inl (fun _ => 0))), (q12, .inl (cy G 0, 40, .inl (fun _ => 0))), (q13, .inl (cy G 0, 10, .inl (fun _ => 0))), (q14, .inl (cy G 0, 53, .inl (f65)))]) H := hW
  refine lv_dup hx hb dX8_init_417 rfl ?_
  refine lv_bipush (v := 51) hx hb dX8_init_418 (by decide) ?_
  refine lv_bipush (v := 116) hx hb dX8_init_420 (by decide) ?_
  refine q_iastj C hW hS 10 rfl 51 (by decide) (vlit (by decide)) dX8_init_422 (fun f66 H locs ef66 hW hS => ?_)
  have hW : Wq G (W0 ++ [(h0, .inr (10, [.int 0, .int 0, .int (-1), .int (-1), .int 0, .ref q1, .ref q2, .ref q3, .ref q4, .ref q5, .ref q6, .ref q11, .ref q12, .ref q13, .null, .null, .int 0, .int 0, .int 0, .int 0, .int 0, .int 0])), (q1, .inl (cy G 0, 128, .inl (fun _ => 0))), (q2, .inl (cy G 0, 128, .inl (fun _ => 0))), (q3, .inl (cy G 0, 128, .inl (fun _ => 0))), (q4, .inl (cy G 0, 1024, .inl (fun _ => 0))), (q5, .inl (cy G 0, 4, .inl (fun _ => 0))), (q6, .inl (cy G 0, 4, .inl (f10))), (q11, .inl (cy G 0, 60, .inl (fun _ => 0))), (q12, .inl (cy G 0, 40, .inl (fun _ => 0))), (q13, .inl (cy G 0, 10, .inl (fun _ => 0))), (q14, .inl (cy G 0, 53, .inl (f66)))]) H := hW
  refine lv_dup hx hb dX8_init_423 rfl ?_
  refine lv_bipush (v := 52) hx hb dX8_init_424 (by decide) ?_
  refine lv_bipush (v := 32) hx hb dX8_init_426 (by decide) ?_
  refine q_iastj C hW hS 10 rfl 52 (by decide) (vlit (by decide)) dX8_init_428 (fun f67 H locs ef67 hW hS => ?_)
  have hW : Wq G (W0 ++ [(h0, .inr (10, [.int 0, .int 0, .int (-1), .int (-1), .int 0, .ref q1, .ref q2, .ref q3, .ref q4, .ref q5, .ref q6, .ref q11, .ref q12, .ref q13, .null, .null, .int 0, .int 0, .int 0, .int 0, .int 0, .int 0])), (q1, .inl (cy G 0, 128, .inl (fun _ => 0))), (q2, .inl (cy G 0, 128, .inl (fun _ => 0))), (q3, .inl (cy G 0, 128, .inl (fun _ => 0))), (q4, .inl (cy G 0, 1024, .inl (fun _ => 0))), (q5, .inl (cy G 0, 4, .inl (fun _ => 0))), (q6, .inl (cy G 0, 4, .inl (f10))), (q11, .inl (cy G 0, 60, .inl (fun _ => 0))), (q12, .inl (cy G 0, 40, .inl (fun _ => 0))), (q13, .inl (cy G 0, 10, .inl (fun _ => 0))), (q14, .inl (cy G 0, 53, .inl (f67)))]) H := hW
  refine q_putF (ci := 10) (v := .ref q14) (ty := .array .int) C hW hS (hwc hwX8) tyX8 tyX8_ok nmX8 0 rfl rfl 14 (by decide) (mc qw_1490) (fun _ h9 => h9) rfl hnm rfl (by decide +kernel) rfl rfl (Nat.le_of_ble_eq_true rfl) dX8_init_429 (fun H locs hW hS => ?_)
  have hW : Wq G (W0 ++ [(h0, .inr (10, [.int 0, .int 0, .int (-1), .int (-1), .int 0, .ref q1, .ref q2, .ref q3, .ref q4, .ref q5, .ref q6, .ref q11, .ref q12, .ref q13, .ref q14, .null, .int 0, .int 0, .int 0, .int 0, .int 0, .int 0])), (q1, .inl (cy G 0, 128, .inl (fun _ => 0))), (q2, .inl (cy G 0, 128, .inl (fun _ => 0))), (q3, .inl (cy G 0, 128, .inl (fun _ => 0))), (q4, .inl (cy G 0, 1024, .inl (fun _ => 0))), (q5, .inl (cy G 0, 4, .inl (fun _ => 0))), (q6, .inl (cy G 0, 4, .inl (f10))), (q11, .inl (cy G 0, 60, .inl (fun _ => 0))), (q12, .inl (cy G 0, 40, .inl (fun _ => 0))), (q13, .inl (cy G 0, 10, .inl (fun _ => 0))), (q14, .inl (cy G 0, 53, .inl (f67)))]) H := hW
  refine lv_aload_n hx hb dX8_init_432 rfl (lv_at hl 0 rfl) ?_
  refine lv_bipush (v := 11) hx hb dX8_init_433 (by decide) ?_
  refine q_newa (atype := .int) (a0 := (11, .inl (fun _ => 0))) (N' := 11) C hW hS hA rfl (mc qw_133) 0 rfl (fun cA => rfl) (by decide) rfl (by decide) (by decide) (by decide) dX8_init_435 (fun q68 H hW hS => ?_)
  have hW : Wq G (W0 ++ [(h0, .inr (10, [.int 0, .int 0, .int (-1), .int (-1), .int 0, .ref q1, .ref q2, .ref q3, .ref q4, .ref q5, .ref q6, .ref q11, .ref q12, .ref q13, .ref q14, .null, .int 0, .int 0, .int 0, .int 0, .int 0, .int 0])), (q1, .inl (cy G 0, 128, .inl (fun _ => 0))), (q2, .inl (cy G 0, 128, .inl (fun _ => 0))), (q3, .inl (cy G 0, 128, .inl (fun _ => 0))), (q4, .inl (cy G 0, 1024, .inl (fun _ => 0))), (q5, .inl (cy G 0, 4, .inl (fun _ => 0))), (q6, .inl (cy G 0, 4, .inl (f10))), (q11, .inl (cy G 0, 60, .inl (fun _ => 0))), (q12, .inl (cy G 0, 40, .inl (fun _ => 0))), (q13, .inl (cy G 0, 10, .inl (fun _ => 0))), (q14, .inl (cy G 0, 53, .inl (f67))), (q68, .inl (cy G 0, 11, .inl (fun _ => 0)))]) H := hW
  refine lv_dup hx hb dX8_init_437 rfl ?_
  refine lv_iconst (v := 0) hx hb dX8_init_438 (by decide) ?_
  refine lv_iconst (v := 0) hx hb dX8_init_439 (by decide) ?_
  refine q_iastj C hW hS 11 rfl 0 (by decide) (vlit (by decide)) dX8_init_440 (fun f69 H locs ef69 hW hS => ?_)
  have hW : Wq G (W0 ++ [(h0, .inr (10, [.int 0, .int 0, .int (-1), .int (-1), .int 0, .ref q1, .ref q2, .ref q3, .ref q4, .ref q5, .ref q6, .ref q11, .ref q12, .ref q13, .ref q14, .null, .int 0, .int 0, .int 0, .int 0, .int 0, .int 0])), (q1, .inl (cy G 0, 128, .inl (fun _ => 0))), (q2, .inl (cy G 0, 128, .inl (fun _ => 0))), (q3, .inl (cy G 0, 128, .inl (fun _ => 0))), (q4, .inl (cy G 0, 1024, .inl (fun _ => 0))), (q5, .inl (cy G 0, 4, .inl (fun _ => 0))), (q6, .inl (cy G 0, 4, .inl (f10))), (q11, .inl (cy G 0, 60, .inl (fun _ => 0))), (q12, .inl (cy G 0, 40, .inl (fun _ => 0))), (q13, .inl (cy G 0, 10, .inl (fun _ => 0))), (q14, .inl (cy G 0, 53, .inl (f67))), (q68, .inl (cy G 0, 11, .inl (f69)))]) H := hW
  refine lv_dup hx hb dX8_init_441 rfl ?_
  refine lv_iconst (v := 1) hx hb dX8_init_442 (by decide) ?_
  refine lv_bipush (v := 7) hx hb dX8_init_443 (by decide) ?_
  refine q_iastj C hW hS 11 rfl 1 (by decide) (vlit (by decide)) dX8_init_445 (fun f70 H locs ef70 hW hS => ?_)
  have hW : Wq G (W0 ++ [(h0, .inr (10, [.int 0, .int 0, .int (-1), .int (-1), .int 0, .ref q1, .ref q2, .ref q3, .ref q4, .ref q5, .ref q6, .ref q11, .ref q12, .ref q13, .ref q14, .null, .int 0, .int 0, .int 0, .int 0, .int 0, .int 0])), (q1, .inl (cy G 0, 128, .inl (fun _ => 0))), (q2, .inl (cy G 0, 128, .inl (fun _ => 0))), (q3, .inl (cy G 0, 128, .inl (fun _ => 0))), (q4, .inl (cy G 0, 1024, .inl (fun _ => 0))), (q5, .inl (cy G 0, 4, .inl (fun _ => 0))), (q6, .inl (cy G 0, 4, .inl (f10))), (q11, .inl (cy G 0, 60, .inl (fun _ => 0))), (q12, .inl (cy G 0, 40, .inl (fun _ => 0))), (q13, .inl (cy G 0, 10, .inl (fun _ => 0))), (q14, .inl (cy G 0, 53, .inl (f67))), (q68, .inl (cy G 0, 11, .inl (f70)))]) H := hW
  refine lv_dup hx hb dX8_init_446 rfl ?_
  refine lv_iconst (v := 2) hx hb dX8_init_447 (by decide) ?_
  refine lv_bipush (v := 12) hx hb dX8_init_448 (by decide) ?_
  refine q_iastj C hW hS 11 rfl 2 (by decide) (vlit (by decide)) dX8_init_450 (fun f71 H locs ef71 hW hS => ?_)
  have hW : Wq G (W0 ++ [(h0, .inr (10, [.int 0, .int 0, .int (-1), .int (-1), .int 0, .ref q1, .ref q2, .ref q3, .ref q4, .ref q5, .ref q6, .ref q11, .ref q12, .ref q13, .ref q14, .null, .int 0, .int 0, .int 0, .int 0, .int 0, .int 0])), (q1, .inl (cy G 0, 128, .inl (fun _ => 0))), (q2, .inl (cy G 0, 128, .inl (fun _ => 0))), (q3, .inl (cy G 0, 128, .inl (fun _ => 0))), (q4, .inl (cy G 0, 1024, .inl (fun _ => 0))), (q5, .inl (cy G 0, 4, .inl (fun _ => 0))), (q6, .inl (cy G 0, 4, .inl (f10))), (q11, .inl (cy G 0, 60, .inl (fun _ => 0))), (q12, .inl (cy G 0, 40, .inl (fun _ => 0))), (q13, .inl (cy G 0, 10, .inl (fun _ => 0))), (q14, .inl (cy G 0, 53, .inl (f67))), (q68, .inl (cy G 0, 11, .inl (f71)))]) H := hW
  refine lv_dup hx hb dX8_init_451 rfl ?_
  refine lv_iconst (v := 3) hx hb dX8_init_452 (by decide) ?_
  refine lv_bipush (v := 17) hx hb dX8_init_453 (by decide) ?_
  refine q_iastj C hW hS 11 rfl 3 (by decide) (vlit (by decide)) dX8_init_455 (fun f72 H locs ef72 hW hS => ?_)
  have hW : Wq G (W0 ++ [(h0, .inr (10, [.int 0, .int 0, .int (-1), .int (-1), .int 0, .ref q1, .ref q2, .ref q3, .ref q4, .ref q5, .ref q6, .ref q11, .ref q12, .ref q13, .ref q14, .null, .int 0, .int 0, .int 0, .int 0, .int 0, .int 0])), (q1, .inl (cy G 0, 128, .inl (fun _ => 0))), (q2, .inl (cy G 0, 128, .inl (fun _ => 0))), (q3, .inl (cy G 0, 128, .inl (fun _ => 0))), (q4, .inl (cy G 0, 1024, .inl (fun _ => 0))), (q5, .inl (cy G 0, 4, .inl (fun _ => 0))), (q6, .inl (cy G 0, 4, .inl (f10))), (q11, .inl (cy G 0, 60, .inl (fun _ => 0))), (q12, .inl (cy G 0, 40, .inl (fun _ => 0))), (q13, .inl (cy G 0, 10, .inl (fun _ => 0))), (q14, .inl (cy G 0, 53, .inl (f67))), (q68, .inl (cy G 0, 11, .inl (f72)))]) H := hW
  refine lv_dup hx hb dX8_init_456 rfl ?_
  refine lv_iconst (v := 4) hx hb dX8_init_457 (by decide) ?_
  refine lv_bipush (v := 21) hx hb dX8_init_458 (by decide) ?_
  refine q_iastj C hW hS 11 rfl 4 (by decide) (vlit (by decide)) dX8_init_460 (fun f73 H locs ef73 hW hS => ?_)
  have hW : Wq G (W0 ++ [(h0, .inr (10, [.int 0, .int 0, .int (-1), .int (-1), .int 0, .ref q1, .ref q2, .ref q3, .ref q4, .ref q5, .ref q6, .ref q11, .ref q12, .ref q13, .ref q14, .null, .int 0, .int 0, .int 0, .int 0, .int 0, .int 0])), (q1, .inl (cy G 0, 128, .inl (fun _ => 0))), (q2, .inl (cy G 0, 128, .inl (fun _ => 0))), (q3, .inl (cy G 0, 128, .inl (fun _ => 0))), (q4, .inl (cy G 0, 1024, .inl (fun _ => 0))), (q5, .inl (cy G 0, 4, .inl (fun _ => 0))), (q6, .inl (cy G 0, 4, .inl (f10))), (q11, .inl (cy G 0, 60, .inl (fun _ => 0))), (q12, .inl (cy G 0, 40, .inl (fun _ => 0))), (q13, .inl (cy G 0, 10, .inl (fun _ => 0))), (q14, .inl (cy G 0, 53, .inl (f67))), (q68, .inl (cy G 0, 11, .inl (f73)))]) H := hW
  refine lv_dup hx hb dX8_init_461 rfl ?_
  refine lv_iconst (v := 5) hx hb dX8_init_462 (by decide) ?_
  refine lv_bipush (v := 26) hx hb dX8_init_463 (by decide) ?_
  refine q_iastj C hW hS 11 rfl 5 (by decide) (vlit (by decide)) dX8_init_465 (fun f74 H locs ef74 hW hS => ?_)
  have hW : Wq G (W0 ++ [(h0, .inr (10, [.int 0, .int 0, .int (-1), .int (-1), .int 0, .ref q1, .ref q2, .ref q3, .ref q4, .ref q5, .ref q6, .ref q11, .ref q12, .ref q13, .ref q14, .null, .int 0, .int 0, .int 0, .int 0, .int 0, .int 0])), (q1, .inl (cy G 0, 128, .inl (fun _ => 0))), (q2, .inl (cy G 0, 128, .inl (fun _ => 0))), (q3, .inl (cy G 0, 128, .inl (fun _ => 0))), (q4, .inl (cy G 0, 1024, .inl (fun _ => 0))), (q5, .inl (cy G 0, 4, .inl (fun _ => 0))), (q6, .inl (cy G 0, 4, .inl (f10))), (q11, .inl (cy G 0, 60, .inl (fun _ => 0))), (q12, .inl (cy G 0, 40, .inl (fun _ => 0))), (q13, .inl (cy G 0, 10, .inl (fun _ => 0))), (q14, .inl (cy G 0, 53, .inl (f67))), (q68, .inl (cy G 0, 11, .inl (f74)))]) H := hW
  refine lv_dup hx hb dX8_init_466 rfl ?_
  refine lv_bipush (v := 6) hx hb dX8_init_467 (by decide) ?_
  refine lv_bipush (v := 32) hx hb dX8_init_469 (by decide) ?_
  refine q_iastj C hW hS 11 rfl 6 (by decide) (vlit (by decide)) dX8_init_471 (fun f75 H locs ef75 hW hS => ?_)
  have hW : Wq G (W0 ++ [(h0, .inr (10, [.int 0, .int 0, .int (-1), .int (-1), .int 0, .ref q1, .ref q2, .ref q3, .ref q4, .ref q5, .ref q6, .ref q11, .ref q12, .ref q13, .ref q14, .null, .int 0, .int 0, .int 0, .int 0, .int 0, .int 0])), (q1, .inl (cy G 0, 128, .inl (fun _ => 0))), (q2, .inl (cy G 0, 128, .inl (fun _ => 0))), (q3, .inl (cy G 0, 128, .inl (fun _ => 0))), (q4, .inl (cy G 0, 1024, .inl (fun _ => 0))), (q5, .inl (cy G 0, 4, .inl (fun _ => 0))), (q6, .inl (cy G 0, 4, .inl (f10))), (q11, .inl (cy G 0, 60, .inl (fun _ => 0))), (q12, .inl (cy G 0, 40, .inl (fun _ => 0))), (q13, .inl (cy G 0, 10, .inl (fun _ => 0))), (q14, .inl (cy G 0, 53, .inl (f67))), (q68, .inl (cy G 0, 11, .inl (f75)))]) H := hW
  refine lv_dup hx hb dX8_init_472 rfl ?_
  refine lv_bipush (v := 7) hx hb dX8_init_473 (by decide) ?_
  refine lv_bipush (v := 37) hx hb dX8_init_475 (by decide) ?_
  refine q_iastj C hW hS 11 rfl 7 (by decide) (vlit (by decide)) dX8_init_477 (fun f76 H locs ef76 hW hS => ?_)
  have hW : Wq G (W0 ++ [(h0, .inr (10, [.int 0, .int 0, .int (-1), .int (-1), .int 0, .ref q1, .ref q2, .ref q3, .ref q4, .ref q5, .ref q6, .ref q11, .ref q12, .ref q13, .ref q14, .null, .int 0, .int 0, .int 0, .int 0, .int 0, .int 0])), (q1, .inl (cy G 0, 128, .inl (fun _ => 0))), (q2, .inl (cy G 0, 128, .inl (fun _ => 0))), (q3, .inl (cy G 0, 128, .inl (fun _ => 0))), (q4, .inl (cy G 0, 1024, .inl (fun _ => 0))), (q5, .inl (cy G 0, 4, .inl (fun _ => 0))), (q6, .inl (cy G 0, 4, .inl (f10))), (q11, .inl (cy G 0, 60, .inl (fun _ => 0))), (q12, .inl (cy G 0, 40, .inl (fun _ => 0))), (q13, .inl (cy G 0, 10, .inl (fun _ => 0))), (q14, .inl (cy G 0, 53, .inl (f67))), (q68, .inl (cy G 0, 11, .inl (f76)))]) H := hW
  refine lv_dup hx hb dX8_init_478 rfl ?_
  refine lv_bipush (v := 8) hx hb dX8_init_479 (by decide) ?_
  refine lv_bipush (v := 43) hx hb dX8_init_481 (by decide) ?_
  refine q_iastj C hW hS 11 rfl 8 (by decide) (vlit (by decide)) dX8_init_483 (fun f77 H locs ef77 hW hS => ?_)
  have hW : Wq G (W0 ++ [(h0, .inr (10, [.int 0, .int 0, .int (-1), .int (-1), .int 0, .ref q1, .ref q2, .ref q3, .ref q4, .ref q5, .ref q6, .ref q11, .ref q12, .ref q13, .ref q14, .null, .int 0, .int 0, .int 0, .int 0, .int 0, .int 0])), (q1, .inl (cy G 0, 128, .inl (fun _ => 0))), (q2, .inl (cy G 0, 128, .inl (fun _ => 0))), (q3, .inl (cy G 0, 128, .inl (fun _ => 0))), (q4, .inl (cy G 0, 1024, .inl (fun _ => 0))), (q5, .inl (cy G 0, 4, .inl (fun _ => 0))), (q6, .inl (cy G 0, 4, .inl (f10))), (q11, .inl (cy G 0, 60, .inl (fun _ => 0))), (q12, .inl (cy G 0, 40, .inl (fun _ => 0))), (q13, .inl (cy G 0, 10, .inl (fun _ => 0))), (q14, .inl (cy G 0, 53, .inl (f67))), (q68, .inl (cy G 0, 11, .inl (f77)))]) H := hW
  refine lv_dup hx hb dX8_init_484 rfl ?_
  refine lv_bipush (v := 9) hx hb dX8_init_485 (by decide) ?_
  refine lv_bipush (v := 48) hx hb dX8_init_487 (by decide) ?_
  refine q_iastj C hW hS 11 rfl 9 (by decide) (vlit (by decide)) dX8_init_489 (fun f78 H locs ef78 hW hS => ?_)
  have hW : Wq G (W0 ++ [(h0, .inr (10, [.int 0, .int 0, .int (-1), .int (-1), .int 0, .ref q1, .ref q2, .ref q3, .ref q4, .ref q5, .ref q6, .ref q11, .ref q12, .ref q13, .ref q14, .null, .int 0, .int 0, .int 0, .int 0, .int 0, .int 0])), (q1, .inl (cy G 0, 128, .inl (fun _ => 0))), (q2, .inl (cy G 0, 128, .inl (fun _ => 0))), (q3, .inl (cy G 0, 128, .inl (fun _ => 0))), (q4, .inl (cy G 0, 1024, .inl (fun _ => 0))), (q5, .inl (cy G 0, 4, .inl (fun _ => 0))), (q6, .inl (cy G 0, 4, .inl (f10))), (q11, .inl (cy G 0, 60, .inl (fun _ => 0))), (q12, .inl (cy G 0, 40, .inl (fun _ => 0))), (q13, .inl (cy G 0, 10, .inl (fun _ => 0))), (q14, .inl (cy G 0, 53, .inl (f67))), (q68, .inl (cy G 0, 11, .inl (f78)))]) H := hW
  refine lv_dup hx hb dX8_init_490 rfl ?_
  refine lv_bipush (v := 10) hx hb dX8_init_491 (by decide) ?_
  refine lv_bipush (v := 53) hx hb dX8_init_493 (by decide) ?_
  refine q_iastj C hW hS 11 rfl 10 (by decide) (vlit (by decide)) dX8_init_495 (fun f79 H locs ef79 hW hS => ?_)
  have hW : Wq G (W0 ++ [(h0, .inr (10, [.int 0, .int 0, .int (-1), .int (-1), .int 0, .ref q1, .ref q2, .ref q3, .ref q4, .ref q5, .ref q6, .ref q11, .ref q12, .ref q13, .ref q14, .null, .int 0, .int 0, .int 0, .int 0, .int 0, .int 0])), (q1, .inl (cy G 0, 128, .inl (fun _ => 0))), (q2, .inl (cy G 0, 128, .inl (fun _ => 0))), (q3, .inl (cy G 0, 128, .inl (fun _ => 0))), (q4, .inl (cy G 0, 1024, .inl (fun _ => 0))), (q5, .inl (cy G 0, 4, .inl (fun _ => 0))), (q6, .inl (cy G 0, 4, .inl (f10))), (q11, .inl (cy G 0, 60, .inl (fun _ => 0))), (q12, .inl (cy G 0, 40, .inl (fun _ => 0))), (q13, .inl (cy G 0, 10, .inl (fun _ => 0))), (q14, .inl (cy G 0, 53, .inl (f67))), (q68, .inl (cy G 0, 11, .inl (f79)))]) H := hW
  refine q_putF (ci := 10) (v := .ref q68) (ty := .array .int) C hW hS (hwc hwX8) tyX8 tyX8_ok nmX8 0 rfl rfl 15 (by decide) (mc qw_1491) (fun _ h9 => h9) rfl hnm rfl (by decide +kernel) rfl rfl (Nat.le_of_ble_eq_true rfl) dX8_init_496 (fun H locs hW hS => ?_)
  have hW : Wq G (W0 ++ [(h0, .inr (10, [.int 0, .int 0, .int (-1), .int (-1), .int 0, .ref q1, .ref q2, .ref q3, .ref q4, .ref q5, .ref q6, .ref q11, .ref q12, .ref q13, .ref q14, .ref q68, .int 0, .int 0, .int 0, .int 0, .int 0, .int 0])), (q1, .inl (cy G 0, 128, .inl (fun _ => 0))), (q2, .inl (cy G 0, 128, .inl (fun _ => 0))), (q3, .inl (cy G 0, 128, .inl (fun _ => 0))), (q4, .inl (cy G 0, 1024, .inl (fun _ => 0))), (q5, .inl (cy G 0, 4, .inl (fun _ => 0))), (q6, .inl (cy G 0, 4, .inl (f10))), (q11, .inl (cy G 0, 60, .inl (fun _ => 0))), (q12, .inl (cy G 0, 40, .inl (fun _ => 0))), (q13, .inl (cy G 0, 10, .inl (fun _ => 0))), (q14, .inl (cy G 0, 53, .inl (f67))), (q68, .inl (cy G 0, 11, .inl (f79)))]) H := hW
  refine lv_iconst (v := 0) hx hb dX8_init_499 (by decide) ?_
  refine lv_istore_n (lv' := [(1, .int 0), (0, .ref h0)]) hx hb dX8_init_500 rfl hl (by decide) rfl (fun ls hl => ?_)
  refine lv_iload_n hx hb dX8_init_501 rfl (lv_at hl 0 rfl) ?_
  refine lv_iconst (v := 3) hx hb dX8_init_502 (by decide) ?_
  refine lv_icmp_ge (tgt := 525) hx hb dX8_init_503 (by decide) (fun h9 => absurd h9 (by decide)) (fun _ => ?_)
  refine lv_aload_n hx hb dX8_init_506 rfl (lv_at hl 1 rfl) ?_
  refine q_get (ci := 10) C hW (hwc hwX8) 0 rfl rfl 5 (by decide) (mc qw_1481) (fun _ h9 => h9) rfl dX8_init_507 ?_
  refine lv_iload_n hx hb dX8_init_510 rfl (lv_at hl 0 rfl) ?_
  refine q_calli (va_runS (As := [.int 0]) (rest := [.ref q1]) C.1 (cX8_furnace_q l G (W0 ++ [(h0, .inr (10, [.int 0, .int 0, .int (-1), .int (-1), .int 0, .ref q1, .ref q2, .ref q3, .ref q4, .ref q5, .ref q6, .ref q11, .ref q12, .ref q13, .ref q14, .ref q68, .int 0, .int 0, .int 0, .int 0, .int 0, .int 0])), (q1, .inl (cy G 0, 128, .inl (fun _ => 0))), (q2, .inl (cy G 0, 128, .inl (fun _ => 0))), (q3, .inl (cy G 0, 128, .inl (fun _ => 0))), (q4, .inl (cy G 0, 1024, .inl (fun _ => 0))), (q5, .inl (cy G 0, 4, .inl (fun _ => 0))), (q6, .inl (cy G 0, 4, .inl (f10))), (q11, .inl (cy G 0, 60, .inl (fun _ => 0))), (q12, .inl (cy G 0, 40, .inl (fun _ => 0))), (q13, .inl (cy G 0, 10, .inl (fun _ => 0))), (q14, .inl (cy G 0, 53, .inl (f67))), (q68, .inl (cy G 0, 11, .inl (f79)))]) 0) (va_cwS 1 C.1.2.2.2.2 (gS qw_1470 qw_1471 qw_81 qw_1472) rfl rfl rfl (by decide +kernel) ⟨Nat.le_of_ble_eq_true rfl, Nat.le_of_ble_eq_true rfl⟩) (q_pre C hO hW hS [.int 0]) rfl rfl hl.1 rfl (lv_room (Nat.le_of_ble_eq_true rfl)) dX8_init_511 ⟨by decide, by decide⟩) hS (fun r80 V H locs hW hS hV => ?_)
  replace hW : Wq G (W0 ++ [(h0, .inr (10, [.int 0, .int 0, .int (-1), .int (-1), .int 0, .ref q1, .ref q2, .ref q3, .ref q4, .ref q5, .ref q6, .ref q11, .ref q12, .ref q13, .ref q14, .ref q68, .int 0, .int 0, .int 0, .int 0, .int 0, .int 0])), (q1, .inl (cy G 0, 128, .inl (fun _ => 0))), (q2, .inl (cy G 0, 128, .inl (fun _ => 0))), (q3, .inl (cy G 0, 128, .inl (fun _ => 0))), (q4, .inl (cy G 0, 1024, .inl (fun _ => 0))), (q5, .inl (cy G 0, 4, .inl (fun _ => 0))), (q6, .inl (cy G 0, 4, .inl (f10))), (q11, .inl (cy G 0, 60, .inl (fun _ => 0))), (q12, .inl (cy G 0, 40, .inl (fun _ => 0))), (q13, .inl (cy G 0, 10, .inl (fun _ => 0))), (q14, .inl (cy G 0, 53, .inl (f67))), (q68, .inl (cy G 0, 11, .inl (f79)))]) H := Wq.cast hV.2 hW
  have hr80 : r80 = 9 := hV.1.trans (by decide)
  refine g_top (y := 9) hr80 ?_
  refine lv_iconst (v := 4) hx hb dX8_init_514 (by decide) ?_
  refine lv_iadd hx hb dX8_init_515 ?_
  refine g_top (y := 13) (by decide) ?_
  refine lv_bipush (v := 20) hx hb dX8_init_516 (by decide) ?_
  refine q_iastj C hW hS 1 rfl 13 (by decide) (vlit (by decide)) dX8_init_518 (fun f81 H locs ef81 hW hS => ?_)
  have hW : Wq G (W0 ++ [(h0, .inr (10, [.int 0, .int 0, .int (-1), .int (-1), .int 0, .ref q1, .ref q2, .ref q3, .ref q4, .ref q5, .ref q6, .ref q11, .ref q12, .ref q13, .ref q14, .ref q68, .int 0, .int 0, .int 0, .int 0, .int 0, .int 0])), (q1, .inl (cy G 0, 128, .inl (f81))), (q2, .inl (cy G 0, 128, .inl (fun _ => 0))), (q3, .inl (cy G 0, 128, .inl (fun _ => 0))), (q4, .inl (cy G 0, 1024, .inl (fun _ => 0))), (q5, .inl (cy G 0, 4, .inl (fun _ => 0))), (q6, .inl (cy G 0, 4, .inl (f10))), (q11, .inl (cy G 0, 60, .inl (fun _ => 0))), (q12, .inl (cy G 0, 40, .inl (fun _ => 0))), (q13, .inl (cy G 0, 10, .inl (fun _ => 0))), (q14, .inl (cy G 0, 53, .inl (f67))), (q68, .inl (cy G 0, 11, .inl (f79)))]) H := hW
  refine lv_iinc (v := 1) (lv' := [(1, .int 1), (0, .ref h0)]) hx hb dX8_init_519 hl (k := 0) rfl (by decide) (by decide) rfl (fun ls hl => ?_)
  refine lv_goto (tgt := 501) hx hb dX8_init_522 (by decide) ?_
  refine lv_iload_n hx hb dX8_init_501 rfl (lv_at hl 0 rfl) ?_
  refine lv_iconst (v := 3) hx hb dX8_init_502 (by decide) ?_
  refine lv_icmp_ge (tgt := 525) hx hb dX8_init_503 (by decide) (fun h9 => absurd h9 (by decide)) (fun _ => ?_)
  refine lv_aload_n hx hb dX8_init_506 rfl (lv_at hl 1 rfl) ?_
  refine q_get (ci := 10) C hW (hwc hwX8) 0 rfl rfl 5 (by decide) (mc qw_1481) (fun _ h9 => h9) rfl dX8_init_507 ?_
  refine lv_iload_n hx hb dX8_init_510 rfl (lv_at hl 0 rfl) ?_
  refine q_calli (va_runS (As := [.int 1]) (rest := [.ref q1]) C.1 (cX8_furnace_q l G (W0 ++ [(h0, .inr (10, [.int 0, .int 0, .int (-1), .int (-1), .int 0, .ref q1, .ref q2, .ref q3, .ref q4, .ref q5, .ref q6, .ref q11, .ref q12, .ref q13, .ref q14, .ref q68, .int 0, .int 0, .int 0, .int 0, .int 0, .int 0])), (q1, .inl (cy G 0, 128, .inl (f81))), (q2, .inl (cy G 0, 128, .inl (fun _ => 0))), (q3, .inl (cy G 0, 128, .inl (fun _ => 0))), (q4, .inl (cy G 0, 1024, .inl (fun _ => 0))), (q5, .inl (cy G 0, 4, .inl (fun _ => 0))), (q6, .inl (cy G 0, 4, .inl (f10))), (q11, .inl (cy G 0, 60, .inl (fun _ => 0))), (q12, .inl (cy G 0, 40, .inl (fun _ => 0))), (q13, .inl (cy G 0, 10, .inl (fun _ => 0))), (q14, .inl (cy G 0, 53, .inl (f67))), (q68, .inl (cy G 0, 11, .inl (f79)))]) 1) (va_cwS 1 C.1.2.2.2.2 (gS qw_1470 qw_1471 qw_81 qw_1472) rfl rfl rfl (by decide +kernel) ⟨Nat.le_of_ble_eq_true rfl, Nat.le_of_ble_eq_true rfl⟩) (q_pre C hO hW hS [.int 1]) rfl rfl hl.1 rfl (lv_room (Nat.le_of_ble_eq_true rfl)) dX8_init_511 ⟨by decide, by decide⟩) hS (fun r82 V H locs hW hS hV => ?_)
  replace hW : Wq G (W0 ++ [(h0, .inr (10, [.int 0, .int 0, .int (-1), .int (-1), .int 0, .ref q1, .ref q2, .ref q3, .ref q4, .ref q5, .ref q6, .ref q11, .ref q12, .ref q13, .ref q14, .ref q68, .int 0, .int 0, .int 0, .int 0, .int 0, .int 0])), (q1, .inl (cy G 0, 128, .inl (f81))), (q2, .inl (cy G 0, 128, .inl (fun _ => 0))), (q3, .inl (cy G 0, 128, .inl (fun _ => 0))), (q4, .inl (cy G 0, 1024, .inl (fun _ => 0))), (q5, .inl (cy G 0, 4, .inl (fun _ => 0))), (q6, .inl (cy G 0, 4, .inl (f10))), (q11, .inl (cy G 0, 60, .inl (fun _ => 0))), (q12, .inl (cy G 0, 40, .inl (fun _ => 0))), (q13, .inl (cy G 0, 10, .inl (fun _ => 0))), (q14, .inl (cy G 0, 53, .inl (f67))), (q68, .inl (cy G 0, 11, .inl (f79)))]) H := Wq.cast hV.2 hW
  have hr82 : r82 = 15 := hV.1.trans (by decide)
  refine g_top (y := 15) hr82 ?_
  refine lv_iconst (v := 4) hx hb dX8_init_514 (by decide) ?_
  refine lv_iadd hx hb dX8_init_515 ?_
  refine g_top (y := 19) (by decide) ?_
  refine lv_bipush (v := 20) hx hb dX8_init_516 (by decide) ?_
  refine q_iastj C hW hS 1 rfl 19 (by decide) (vlit (by decide)) dX8_init_518 (fun f83 H locs ef83 hW hS => ?_)
  have hW : Wq G (W0 ++ [(h0, .inr (10, [.int 0, .int 0, .int (-1), .int (-1), .int 0, .ref q1, .ref q2, .ref q3, .ref q4, .ref q5, .ref q6, .ref q11, .ref q12, .ref q13, .ref q14, .ref q68, .int 0, .int 0, .int 0, .int 0, .int 0, .int 0])), (q1, .inl (cy G 0, 128, .inl (f83))), (q2, .inl (cy G 0, 128, .inl (fun _ => 0))), (q3, .inl (cy G 0, 128, .inl (fun _ => 0))), (q4, .inl (cy G 0, 1024, .inl (fun _ => 0))), (q5, .inl (cy G 0, 4, .inl (fun _ => 0))), (q6, .inl (cy G 0, 4, .inl (f10))), (q11, .inl (cy G 0, 60, .inl (fun _ => 0))), (q12, .inl (cy G 0, 40, .inl (fun _ => 0))), (q13, .inl (cy G 0, 10, .inl (fun _ => 0))), (q14, .inl (cy G 0, 53, .inl (f67))), (q68, .inl (cy G 0, 11, .inl (f79)))]) H := hW
  refine lv_iinc (v := 2) (lv' := [(1, .int 2), (0, .ref h0)]) hx hb dX8_init_519 hl (k := 0) rfl (by decide) (by decide) rfl (fun ls hl => ?_)
  refine lv_goto (tgt := 501) hx hb dX8_init_522 (by decide) ?_
  refine lv_iload_n hx hb dX8_init_501 rfl (lv_at hl 0 rfl) ?_
  refine lv_iconst (v := 3) hx hb dX8_init_502 (by decide) ?_
  refine lv_icmp_ge (tgt := 525) hx hb dX8_init_503 (by decide) (fun h9 => absurd h9 (by decide)) (fun _ => ?_)
  refine lv_aload_n hx hb dX8_init_506 rfl (lv_at hl 1 rfl) ?_
  refine q_get (ci := 10) C hW (hwc hwX8) 0 rfl rfl 5 (by decide) (mc qw_1481) (fun _ h9 => h9) rfl dX8_init_507 ?_
  refine lv_iload_n hx hb dX8_init_510 rfl (lv_at hl 0 rfl) ?_
  refine q_calli (va_runS (As := [.int 2]) (rest := [.ref q1]) C.1 (cX8_furnace_q l G (W0 ++ [(h0, .inr (10, [.int 0, .int 0, .int (-1), .int (-1), .int 0, .ref q1, .ref q2, .ref q3, .ref q4, .ref q5, .ref q6, .ref q11, .ref q12, .ref q13, .ref q14, .ref q68, .int 0, .int 0, .int 0, .int 0, .int 0, .int 0])), (q1, .inl (cy G 0, 128, .inl (f83))), (q2, .inl (cy G 0, 128, .inl (fun _ => 0))), (q3, .inl (cy G 0, 128, .inl (fun _ => 0))), (q4, .inl (cy G 0, 1024, .inl (fun _ => 0))), (q5, .inl (cy G 0, 4, .inl (fun _ => 0))), (q6, .inl (cy G 0, 4, .inl (f10))), (q11, .inl (cy G 0, 60, .inl (fun _ => 0))), (q12, .inl (cy G 0, 40, .inl (fun _ => 0))), (q13, .inl (cy G 0, 10, .inl (fun _ => 0))), (q14, .inl (cy G 0, 53, .inl (f67))), (q68, .inl (cy G 0, 11, .inl (f79)))]) 2) (va_cwS 1 C.1.2.2.2.2 (gS qw_1470 qw_1471 qw_81 qw_1472) rfl rfl rfl (by decide +kernel) ⟨Nat.le_of_ble_eq_true rfl, Nat.le_of_ble_eq_true rfl⟩) (q_pre C hO hW hS [.int 2]) rfl rfl hl.1 rfl (lv_room (Nat.le_of_ble_eq_true rfl)) dX8_init_511 ⟨by decide, by decide⟩) hS (fun r84 V H locs hW hS hV => ?_)
  replace hW : Wq G (W0 ++ [(h0, .inr (10, [.int 0, .int 0, .int (-1), .int (-1), .int 0, .ref q1, .ref q2, .ref q3, .ref q4, .ref q5, .ref q6, .ref q11, .ref q12, .ref q13, .ref q14, .ref q68, .int 0, .int 0, .int 0, .int 0, .int 0, .int 0])), (q1, .inl (cy G 0, 128, .inl (f83))), (q2, .inl (cy G 0, 128, .inl (fun _ => 0))), (q3, .inl (cy G 0, 128, .inl (fun _ => 0))), (q4, .inl (cy G 0, 1024, .inl (fun _ => 0))), (q5, .inl (cy G 0, 4, .inl (fun _ => 0))), (q6, .inl (cy G 0, 4, .inl (f10))), (q11, .inl (cy G 0, 60, .inl (fun _ => 0))), (q12, .inl (cy G 0, 40, .inl (fun _ => 0))), (q13, .inl (cy G 0, 10, .inl (fun _ => 0))), (q14, .inl (cy G 0, 53, .inl (f67))), (q68, .inl (cy G 0, 11, .inl (f79)))]) H := Wq.cast hV.2 hW
  have hr84 : r84 = 21 := hV.1.trans (by decide)
  refine g_top (y := 21) hr84 ?_
  refine lv_iconst (v := 4) hx hb dX8_init_514 (by decide) ?_
  refine lv_iadd hx hb dX8_init_515 ?_
  refine g_top (y := 25) (by decide) ?_
  refine lv_bipush (v := 20) hx hb dX8_init_516 (by decide) ?_
  refine q_iastj C hW hS 1 rfl 25 (by decide) (vlit (by decide)) dX8_init_518 (fun f85 H locs ef85 hW hS => ?_)
  have hW : Wq G (W0 ++ [(h0, .inr (10, [.int 0, .int 0, .int (-1), .int (-1), .int 0, .ref q1, .ref q2, .ref q3, .ref q4, .ref q5, .ref q6, .ref q11, .ref q12, .ref q13, .ref q14, .ref q68, .int 0, .int 0, .int 0, .int 0, .int 0, .int 0])), (q1, .inl (cy G 0, 128, .inl (f85))), (q2, .inl (cy G 0, 128, .inl (fun _ => 0))), (q3, .inl (cy G 0, 128, .inl (fun _ => 0))), (q4, .inl (cy G 0, 1024, .inl (fun _ => 0))), (q5, .inl (cy G 0, 4, .inl (fun _ => 0))), (q6, .inl (cy G 0, 4, .inl (f10))), (q11, .inl (cy G 0, 60, .inl (fun _ => 0))), (q12, .inl (cy G 0, 40, .inl (fun _ => 0))), (q13, .inl (cy G 0, 10, .inl (fun _ => 0))), (q14, .inl (cy G 0, 53, .inl (f67))), (q68, .inl (cy G 0, 11, .inl (f79)))]) H := hW
  refine lv_iinc (v := 3) (lv' := [(1, .int 3), (0, .ref h0)]) hx hb dX8_init_519 hl (k := 0) rfl (by decide) (by decide) rfl (fun ls hl => ?_)
  refine lv_goto (tgt := 501) hx hb dX8_init_522 (by decide) ?_
  refine lv_iload_n hx hb dX8_init_501 rfl (lv_at hl 0 rfl) ?_
  refine lv_iconst (v := 3) hx hb dX8_init_502 (by decide) ?_
  refine lv_icmp_ge (tgt := 525) hx hb dX8_init_503 (by decide) (fun _ => ?_) (fun h9 => absurd h9 (by decide))
  refine lv_iconst (v := 0) hx hb dX8_init_525 (by decide) ?_
  refine lv_istore_n (lv' := [(1, .int 0), (0, .ref h0)]) hx hb dX8_init_526 rfl hl (by decide) rfl (fun ls hl => ?_)
  refine lv_iload_n hx hb dX8_init_527 rfl (lv_at hl 0 rfl) ?_
  refine lv_iconst (v := 3) hx hb dX8_init_528 (by decide) ?_
  refine lv_icmp_ge (tgt := 551) hx hb dX8_init_529 (by decide) (fun h9 => absurd h9 (by decide)) (fun _ => ?_)
  refine lv_aload_n hx hb dX8_init_532 rfl (lv_at hl 1 rfl) ?_
  refine q_get (ci := 10) C hW (hwc hwX8) 0 rfl rfl 5 (by decide) (mc qw_1481) (fun _ h9 => h9) rfl dX8_init_533 ?_
  refine lv_iload_n hx hb dX8_init_536 rfl (lv_at hl 0 rfl) ?_
  refine q_calli (va_runS (As := [.int 0]) (rest := [.ref q1]) C.1 (cX8_ladle_q l G (W0 ++ [(h0, .inr (10, [.int 0, .int 0, .int (-1), .int (-1), .int 0, .ref q1, .ref q2, .ref q3, .ref q4, .ref q5, .ref q6, .ref q11, .ref q12, .ref q13, .ref q14, .ref q68, .int 0, .int 0, .int 0, .int 0, .int 0, .int 0])), (q1, .inl (cy G 0, 128, .inl (f85))), (q2, .inl (cy G 0, 128, .inl (fun _ => 0))), (q3, .inl (cy G 0, 128, .inl (fun _ => 0))), (q4, .inl (cy G 0, 1024, .inl (fun _ => 0))), (q5, .inl (cy G 0, 4, .inl (fun _ => 0))), (q6, .inl (cy G 0, 4, .inl (f10))), (q11, .inl (cy G 0, 60, .inl (fun _ => 0))), (q12, .inl (cy G 0, 40, .inl (fun _ => 0))), (q13, .inl (cy G 0, 10, .inl (fun _ => 0))), (q14, .inl (cy G 0, 53, .inl (f67))), (q68, .inl (cy G 0, 11, .inl (f79)))]) 0) (va_cwS 1 C.1.2.2.2.2 (gS qw_1473 qw_1474 qw_81 qw_1475) rfl rfl rfl (by decide +kernel) ⟨Nat.le_of_ble_eq_true rfl, Nat.le_of_ble_eq_true rfl⟩) (q_pre C hO hW hS [.int 0]) rfl rfl hl.1 rfl (lv_room (Nat.le_of_ble_eq_true rfl)) dX8_init_537 ⟨by decide, by decide⟩) hS (fun r86 V H locs hW hS hV => ?_)
  replace hW : Wq G (W0 ++ [(h0, .inr (10, [.int 0, .int 0, .int (-1), .int (-1), .int 0, .ref q1, .ref q2, .ref q3, .ref q4, .ref q5, .ref q6, .ref q11, .ref q12, .ref q13, .ref q14, .ref q68, .int 0, .int 0, .int 0, .int 0, .int 0, .int 0])), (q1, .inl (cy G 0, 128, .inl (f85))), (q2, .inl (cy G 0, 128, .inl (fun _ => 0))), (q3, .inl (cy G 0, 128, .inl (fun _ => 0))), (q4, .inl (cy G 0, 1024, .inl (fun _ => 0))), (q5, .inl (cy G 0, 4, .inl (fun _ => 0))), (q6, .inl (cy G 0, 4, .inl (f10))), (q11, .inl (cy G 0, 60, .inl (fun _ => 0))), (q12, .inl (cy G 0, 40, .inl (fun _ => 0))), (q13, .inl (cy G 0, 10, .inl (fun _ => 0))), (q14, .inl (cy G 0, 53, .inl (f67))), (q68, .inl (cy G 0, 11, .inl (f79)))]) H := Wq.cast hV.2 hW
  have hr86 : r86 = 27 := hV.1.trans (by decide)
  refine g_top (y := 27) hr86 ?_
  refine lv_iconst (v := 4) hx hb dX8_init_540 (by decide) ?_
  refine lv_iadd hx hb dX8_init_541 ?_
  refine g_top (y := 31) (by decide) ?_
  refine lv_bipush (v := 20) hx hb dX8_init_542 (by decide) ?_
  refine q_iastj C hW hS 1 rfl 31 (by decide) (vlit (by decide)) dX8_init_544 (fun f87 H locs ef87 hW hS => ?_)
  have hW : Wq G (W0 ++ [(h0, .inr (10, [.int 0, .int 0, .int (-1), .int (-1), .int 0, .ref q1, .ref q2, .ref q3, .ref q4, .ref q5, .ref q6, .ref q11, .ref q12, .ref q13, .ref q14, .ref q68, .int 0, .int 0, .int 0, .int 0, .int 0, .int 0])), (q1, .inl (cy G 0, 128, .inl (f87))), (q2, .inl (cy G 0, 128, .inl (fun _ => 0))), (q3, .inl (cy G 0, 128, .inl (fun _ => 0))), (q4, .inl (cy G 0, 1024, .inl (fun _ => 0))), (q5, .inl (cy G 0, 4, .inl (fun _ => 0))), (q6, .inl (cy G 0, 4, .inl (f10))), (q11, .inl (cy G 0, 60, .inl (fun _ => 0))), (q12, .inl (cy G 0, 40, .inl (fun _ => 0))), (q13, .inl (cy G 0, 10, .inl (fun _ => 0))), (q14, .inl (cy G 0, 53, .inl (f67))), (q68, .inl (cy G 0, 11, .inl (f79)))]) H := hW
  refine lv_iinc (v := 1) (lv' := [(1, .int 1), (0, .ref h0)]) hx hb dX8_init_545 hl (k := 0) rfl (by decide) (by decide) rfl (fun ls hl => ?_)
  refine lv_goto (tgt := 527) hx hb dX8_init_548 (by decide) ?_
  refine lv_iload_n hx hb dX8_init_527 rfl (lv_at hl 0 rfl) ?_
  refine lv_iconst (v := 3) hx hb dX8_init_528 (by decide) ?_
  refine lv_icmp_ge (tgt := 551) hx hb dX8_init_529 (by decide) (fun h9 => absurd h9 (by decide)) (fun _ => ?_)
  refine lv_aload_n hx hb dX8_init_532 rfl (lv_at hl 1 rfl) ?_
  refine q_get (ci := 10) C hW (hwc hwX8) 0 rfl rfl 5 (by decide) (mc qw_1481) (fun _ h9 => h9) rfl dX8_init_533 ?_
  refine lv_iload_n hx hb dX8_init_536 rfl (lv_at hl 0 rfl) ?_
  refine q_calli (va_runS (As := [.int 1]) (rest := [.ref q1]) C.1 (cX8_ladle_q l G (W0 ++ [(h0, .inr (10, [.int 0, .int 0, .int (-1), .int (-1), .int 0, .ref q1, .ref q2, .ref q3, .ref q4, .ref q5, .ref q6, .ref q11, .ref q12, .ref q13, .ref q14, .ref q68, .int 0, .int 0, .int 0, .int 0, .int 0, .int 0])), (q1, .inl (cy G 0, 128, .inl (f87))), (q2, .inl (cy G 0, 128, .inl (fun _ => 0))), (q3, .inl (cy G 0, 128, .inl (fun _ => 0))), (q4, .inl (cy G 0, 1024, .inl (fun _ => 0))), (q5, .inl (cy G 0, 4, .inl (fun _ => 0))), (q6, .inl (cy G 0, 4, .inl (f10))), (q11, .inl (cy G 0, 60, .inl (fun _ => 0))), (q12, .inl (cy G 0, 40, .inl (fun _ => 0))), (q13, .inl (cy G 0, 10, .inl (fun _ => 0))), (q14, .inl (cy G 0, 53, .inl (f67))), (q68, .inl (cy G 0, 11, .inl (f79)))]) 1) (va_cwS 1 C.1.2.2.2.2 (gS qw_1473 qw_1474 qw_81 qw_1475) rfl rfl rfl (by decide +kernel) ⟨Nat.le_of_ble_eq_true rfl, Nat.le_of_ble_eq_true rfl⟩) (q_pre C hO hW hS [.int 1]) rfl rfl hl.1 rfl (lv_room (Nat.le_of_ble_eq_true rfl)) dX8_init_537 ⟨by decide, by decide⟩) hS (fun r88 V H locs hW hS hV => ?_)
  replace hW : Wq G (W0 ++ [(h0, .inr (10, [.int 0, .int 0, .int (-1), .int (-1), .int 0, .ref q1, .ref q2, .ref q3, .ref q4, .ref q5, .ref q6, .ref q11, .ref q12, .ref q13, .ref q14, .ref q68, .int 0, .int 0, .int 0, .int 0, .int 0, .int 0])), (q1, .inl (cy G 0, 128, .inl (f87))), (q2, .inl (cy G 0, 128, .inl (fun _ => 0))), (q3, .inl (cy G 0, 128, .inl (fun _ => 0))), (q4, .inl (cy G 0, 1024, .inl (fun _ => 0))), (q5, .inl (cy G 0, 4, .inl (fun _ => 0))), (q6, .inl (cy G 0, 4, .inl (f10))), (q11, .inl (cy G 0, 60, .inl (fun _ => 0))), (q12, .inl (cy G 0, 40, .inl (fun _ => 0))), (q13, .inl (cy G 0, 10, .inl (fun _ => 0))), (q14, .inl (cy G 0, 53, .inl (f67))), (q68, .inl (cy G 0, 11, .inl (f79)))]) H := Wq.cast hV.2 hW
  have hr88 : r88 = 32 := hV.1.trans (by decide)
  refine g_top (y := 32) hr88 ?_
  refine lv_iconst (v := 4) hx hb dX8_init_540 (by decide) ?_
  refine lv_iadd hx hb dX8_init_541 ?_
  refine g_top (y := 36) (by decide) ?_
  refine lv_bipush (v := 20) hx hb dX8_init_542 (by decide) ?_
  refine q_iastj C hW hS 1 rfl 36 (by decide) (vlit (by decide)) dX8_init_544 (fun f89 H locs ef89 hW hS => ?_)
  have hW : Wq G (W0 ++ [(h0, .inr (10, [.int 0, .int 0, .int (-1), .int (-1), .int 0, .ref q1, .ref q2, .ref q3, .ref q4, .ref q5, .ref q6, .ref q11, .ref q12, .ref q13, .ref q14, .ref q68, .int 0, .int 0, .int 0, .int 0, .int 0, .int 0])), (q1, .inl (cy G 0, 128, .inl (f89))), (q2, .inl (cy G 0, 128, .inl (fun _ => 0))), (q3, .inl (cy G 0, 128, .inl (fun _ => 0))), (q4, .inl (cy G 0, 1024, .inl (fun _ => 0))), (q5, .inl (cy G 0, 4, .inl (fun _ => 0))), (q6, .inl (cy G 0, 4, .inl (f10))), (q11, .inl (cy G 0, 60, .inl (fun _ => 0))), (q12, .inl (cy G 0, 40, .inl (fun _ => 0))), (q13, .inl (cy G 0, 10, .inl (fun _ => 0))), (q14, .inl (cy G 0, 53, .inl (f67))), (q68, .inl (cy G 0, 11, .inl (f79)))]) H := hW
  refine lv_iinc (v := 2) (lv' := [(1, .int 2), (0, .ref h0)]) hx hb dX8_init_545 hl (k := 0) rfl (by decide) (by decide) rfl (fun ls hl => ?_)
  refine lv_goto (tgt := 527) hx hb dX8_init_548 (by decide) ?_
  refine lv_iload_n hx hb dX8_init_527 rfl (lv_at hl 0 rfl) ?_
  refine lv_iconst (v := 3) hx hb dX8_init_528 (by decide) ?_
  refine lv_icmp_ge (tgt := 551) hx hb dX8_init_529 (by decide) (fun h9 => absurd h9 (by decide)) (fun _ => ?_)
  refine lv_aload_n hx hb dX8_init_532 rfl (lv_at hl 1 rfl) ?_
  refine q_get (ci := 10) C hW (hwc hwX8) 0 rfl rfl 5 (by decide) (mc qw_1481) (fun _ h9 => h9) rfl dX8_init_533 ?_
  refine lv_iload_n hx hb dX8_init_536 rfl (lv_at hl 0 rfl) ?_
  refine q_calli (va_runS (As := [.int 2]) (rest := [.ref q1]) C.1 (cX8_ladle_q l G (W0 ++ [(h0, .inr (10, [.int 0, .int 0, .int (-1), .int (-1), .int 0, .ref q1, .ref q2, .ref q3, .ref q4, .ref q5, .ref q6, .ref q11, .ref q12, .ref q13, .ref q14, .ref q68, .int 0, .int 0, .int 0, .int 0, .int 0, .int 0])), (q1, .inl (cy G 0, 128, .inl (f89))), (q2, .inl (cy G 0, 128, .inl (fun _ => 0))), (q3, .inl (cy G 0, 128, .inl (fun _ => 0))), (q4, .inl (cy G 0, 1024, .inl (fun _ => 0))), (q5, .inl (cy G 0, 4, .inl (fun _ => 0))), (q6, .inl (cy G 0, 4, .inl (f10))), (q11, .inl (cy G 0, 60, .inl (fun _ => 0))), (q12, .inl (cy G 0, 40, .inl (fun _ => 0))), (q13, .inl (cy G 0, 10, .inl (fun _ => 0))), (q14, .inl (cy G 0, 53, .inl (f67))), (q68, .inl (cy G 0, 11, .inl (f79)))]) 2) (va_cwS 1 C.1.2.2.2.2 (gS qw_1473 qw_1474 qw_81 qw_1475) rfl rfl rfl (by decide +kernel) ⟨Nat.le_of_ble_eq_true rfl, Nat.le_of_ble_eq_true rfl⟩) (q_pre C hO hW hS [.int 2]) rfl rfl hl.1 rfl (lv_room (Nat.le_of_ble_eq_true rfl)) dX8_init_537 ⟨by decide, by decide⟩) hS (fun r90 V H locs hW hS hV => ?_)
  replace hW : Wq G (W0 ++ [(h0, .inr (10, [.int 0, .int 0, .int (-1), .int (-1), .int 0, .ref q1, .ref q2, .ref q3, .ref q4, .ref q5, .ref q6, .ref q11, .ref q12, .ref q13, .ref q14, .ref q68, .int 0, .int 0, .int 0, .int 0, .int 0, .int 0])), (q1, .inl (cy G 0, 128, .inl (f89))), (q2, .inl (cy G 0, 128, .inl (fun _ => 0))), (q3, .inl (cy G 0, 128, .inl (fun _ => 0))), (q4, .inl (cy G 0, 1024, .inl (fun _ => 0))), (q5, .inl (cy G 0, 4, .inl (fun _ => 0))), (q6, .inl (cy G 0, 4, .inl (f10))), (q11, .inl (cy G 0, 60, .inl (fun _ => 0))), (q12, .inl (cy G 0, 40, .inl (fun _ => 0))), (q13, .inl (cy G 0, 10, .inl (fun _ => 0))), (q14, .inl (cy G 0, 53, .inl (f67))), (q68, .inl (cy G 0, 11, .inl (f79)))]) H := Wq.cast hV.2 hW
  have hr90 : r90 = 37 := hV.1.trans (by decide)
  refine g_top (y := 37) hr90 ?_
  refine lv_iconst (v := 4) hx hb dX8_init_540 (by decide) ?_
  refine lv_iadd hx hb dX8_init_541 ?_
  refine g_top (y := 41) (by decide) ?_
  refine lv_bipush (v := 20) hx hb dX8_init_542 (by decide) ?_
  refine q_iastj C hW hS 1 rfl 41 (by decide) (vlit (by decide)) dX8_init_544 (fun f91 H locs ef91 hW hS => ?_)
  have hW : Wq G (W0 ++ [(h0, .inr (10, [.int 0, .int 0, .int (-1), .int (-1), .int 0, .ref q1, .ref q2, .ref q3, .ref q4, .ref q5, .ref q6, .ref q11, .ref q12, .ref q13, .ref q14, .ref q68, .int 0, .int 0, .int 0, .int 0, .int 0, .int 0])), (q1, .inl (cy G 0, 128, .inl (f91))), (q2, .inl (cy G 0, 128, .inl (fun _ => 0))), (q3, .inl (cy G 0, 128, .inl (fun _ => 0))), (q4, .inl (cy G 0, 1024, .inl (fun _ => 0))), (q5, .inl (cy G 0, 4, .inl (fun _ => 0))), (q6, .inl (cy G 0, 4, .inl (f10))), (q11, .inl (cy G 0, 60, .inl (fun _ => 0))), (q12, .inl (cy G 0, 40, .inl (fun _ => 0))), (q13, .inl (cy G 0, 10, .inl (fun _ => 0))), (q14, .inl (cy G 0, 53, .inl (f67))), (q68, .inl (cy G 0, 11, .inl (f79)))]) H := hW
  refine lv_iinc (v := 3) (lv' := [(1, .int 3), (0, .ref h0)]) hx hb dX8_init_545 hl (k := 0) rfl (by decide) (by decide) rfl (fun ls hl => ?_)
  refine lv_goto (tgt := 527) hx hb dX8_init_548 (by decide) ?_
  refine lv_iload_n hx hb dX8_init_527 rfl (lv_at hl 0 rfl) ?_
  refine lv_iconst (v := 3) hx hb dX8_init_528 (by decide) ?_
  refine lv_icmp_ge (tgt := 551) hx hb dX8_init_529 (by decide) (fun _ => ?_) (fun h9 => absurd h9 (by decide))
  refine W.widen (k := 11) (n := 1590) (by decide) (by decide) ?_
  exact q_vret C hr hlk hW hS dX8_init_551 ⟨fun i => [h0, q1, q2, q3, q4, q5, q6, q11, q12, q13, q14, q68].getD i 0, by rw [ef91, ef89, ef87, ef85, ef83, ef81, ef79, ef78, ef77, ef76, ef75, ef74, ef73, ef72, ef71, ef70, ef69, ef67, ef66, ef65, ef64, ef63, ef62, ef61, ef60, ef59, ef58, ef57, ef56, ef55, ef54, ef53, ef52, ef51, ef50, ef49, ef48, ef47, ef46, ef45, ef44, ef43, ef42, ef41, ef40, ef39, ef38, ef37, ef36, ef35, ef34, ef33, ef32, ef31, ef30, ef29, ef28, ef27, ef26, ef25, ef24, ef23, ef22, ef21, ef20, ef19, ef18, ef17, ef16, ef15, ef10, ef9, ef8, ef7]; rfl⟩
