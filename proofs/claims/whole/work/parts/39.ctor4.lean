/-! The class is made. -/
theorem qw_112 : Cond.classLink "Foundry" 7 "Foundry$Plant" ∈ lw_all := lw_mem 112 (by decide +kernel) (by decide +kernel)
theorem qw_200 : Cond.classLink "Foundry" 16 "Foundry$History" ∈ lw_all := lw_mem 200 (by decide +kernel) (by decide +kernel)
theorem qw_201 : Cond.instantiable "Foundry$History" 3 ∈ lw_all := lw_mem 201 (by decide +kernel) (by decide +kernel)
theorem qw_220 : Cond.classLink "Foundry" 30 "Foundry$Script" ∈ lw_all := lw_mem 220 (by decide +kernel) (by decide +kernel)
theorem qw_221 : Cond.instantiable "Foundry$Script" 6 ∈ lw_all := lw_mem 221 (by decide +kernel) (by decide +kernel)
theorem qw_254 : Cond.classLink "Foundry" 44 "java/lang/StringBuilder" ∈ lw_all := lw_mem 254 (by decide +kernel) (by decide +kernel)
theorem qw_255 : Cond.instantiable "java/lang/StringBuilder" 4 ∈ lw_all := lw_mem 255 (by decide +kernel) (by decide +kernel)
theorem qw_257 : Cond.instanceMethod ⟨"java/lang/StringBuilder", "<init>", "()V"⟩ ∈ lw_all := lw_mem 257 (by decide +kernel) (by decide +kernel)
theorem qw_258 : Cond.code ⟨"java/lang/StringBuilder", "<init>", "()V"⟩ prog_29_method_1_code 1 (none : Option FieldType) ∈ lw_all := lw_mem 258 (by decide +kernel) (by decide +kernel)
def hiq (G : GT) (h s1 : Nat) (b : Nat → Nat → Nat) : va_W := [(h, .inr (4, [.ref s1, .int 0, .int 0])), (s1, .inl (cy G 7, 9, .inr (.inr (.inr (.inr (slq b))))))] ++ hsq G b 9
def scq (G : GT) (h t1 c1 z1 : Nat) : va_W := [(h, .inr (7, [.ref t1, .int 0, .int 0, .ref c1, .ref z1, .int 0])), (t1, .inl (cy G 1, 60, .inl (fun _ => 0))), (c1, .inl (cy G 8, 60, .inr (.inr (.inr (.inr (fun _ => none)))))), (z1, argq G z1)] ++ rowq G z1
def sbq (G : GT) (h b1 : Nat) : va_W := [(h, .inr (1, [.ref b1, .int 0, .int 0, .int 0])), (b1, .inl (cy G 2, 16, .inl (fun _ => 0)))]
/-- the class's object and all that it holds, as its constructor makes it -/
def foq (G : GT) (h0 : Nat) (a1 : Nat → Nat) (hh s1 : Nat) (b : Nat → Nat → Nat) (a2 : Nat → Nat) (sc t1 c1 z1 sb b1 : Nat) : va_W := ((((([(h0, .inr (9, [.ref (a1 0), .ref hh, .ref (a2 0), .int 0, .ref sc, .int (-1), .int (-1), .ref sb]))] ++ plq G a1) ++ hiq G hh s1 b) ++ plq G a2) ++ scq G sc t1 c1 z1) ++ sbq G sb b1)

set_option maxHeartbeats 4000000 in
set_option maxRecDepth 100000 in
theorem cX7_init_q (l : Launch) (G : GT) (W0 : va_W) (h0 : Nat) : MetC l G 783 2510 yX7_init (wsG yX7_init cX7_init 1 none) (rmc 5 783 2510 123) [.ref h0] (W0 ++ [(h0, .inr (9, [.null, .null, .null, .int 0, .null, .int 0, .int 0, .null]))]) (fun V => ∃ (a1 : Nat → Nat) (hh s1 : Nat) (b : Nat → Nat → Nat) (a2 : Nat → Nat) (sc t1 c1 z1 sb b1 : Nat), V = W0 ++ foq G h0 a1 hh s1 b a2 sc t1 c1 z1 sb b1) := by
  refine q_met (cc := cX7_init) (maxL := 1) (ret := none) (by decide) rfl (Nat.le_of_ble_eq_true rfl) ?_
  intro p e s m below meth c ls C hr hlk hnm hO hW hl
  have hx := C.1.1
  have hb := C.1.2.1
  have hS : va_S (Ab G) s.heap s.heap [] := va_S.rf
  have hA : ∀ q, s.heap.size ≤ q → Ab G q := fun q h => hW.ab (k := W0.length + 0) (ql_at rfl) h
  have hl : lv_has ls 1 [(0, .ref h0)] := hl
  refine lv_aload_n hx hb dX7_init_0 rfl (lv_at hl 0 rfl) ?_
  refine q_obj C hl.1 (mc qw_109) (mc qw_110) (mc qw_111) dX7_init_1 (by decide) (by decide) (by decide) ?_
  refine lv_aload_n hx hb dX7_init_4 rfl (lv_at hl 0 rfl) ?_
  refine q_new (ci := 6) (fs := [.null, .null, .null, .null, .null, .int 0, .null, .int 0, .null, .null, .int 0]) C hW hS hA (hwc hwX4) tyX4 tyX4_ok (mc qw_112) (mc qw_113) (mc qw_72) rfl (fun j hj => by rcases (show j = 0 ∨ j = 1 ∨ j = 2 ∨ j = 3 ∨ j = 4 ∨ j = 5 ∨ j = 6 ∨ j = 7 ∨ j = 8 ∨ j = 9 ∨ j = 10 by omega) with rfl | rfl | rfl | rfl | rfl | rfl | rfl | rfl | rfl | rfl | rfl <;> rfl) (by decide) (by decide) dX7_init_5 (fun q1 H hW hS => ?_)
  have hW : Wq G (W0 ++ ([(h0, .inr (9, [.null, .null, .null, .int 0, .null, .int 0, .int 0, .null]))] ++ [(q1, .inr (6, [.null, .null, .null, .null, .null, .int 0, .null, .int 0, .null, .null, .int 0]))])) H := hW
  refine lv_dup hx hb dX7_init_8 rfl ?_
  have hWc : Wq G ((W0 ++ [(h0, .inr (9, [.null, .null, .null, .int 0, .null, .int 0, .int 0, .null]))]) ++ [(q1, .inr (6, [.null, .null, .null, .null, .null, .int 0, .null, .int 0, .null, .null, .int 0]))]) H := Wq.cast (List.append_assoc _ _ _).symm hW
  refine q_callv (va_runI (As := []) (rest := [.ref q1, .ref h0]) C.1 (cX4_init_q l G (W0 ++ [(h0, .inr (9, [.null, .null, .null, .int 0, .null, .int 0, .int 0, .null]))]) q1) (cwI 0 C.1.2.2.2.2 (gN qw_116) rfl rfl rfl (C.1.2.2.2.2 _ (mc qw_72)) (C.1.2.2.2.2 _ (mc qw_114)) (C.1.2.2.2.2 _ (mc qw_115)) rfl (by decide +kernel) ⟨Nat.le_of_ble_eq_true rfl, Nat.le_of_ble_eq_true rfl⟩) (q_pre C hO hWc hS [.ref q1]) rfl rfl hl.1 rfl (lv_room (Nat.le_of_ble_eq_true rfl)) dX7_init_9 ⟨by decide, by decide⟩) hS (fun V H locs hW hS hV => ?_)
  obtain ⟨a2, ha2, rfl⟩ := hV
  replace hW : Wq G (W0 ++ ([(h0, .inr (9, [.null, .null, .null, .int 0, .null, .int 0, .int 0, .null]))] ++ plq G a2)) H := Wq.cast (List.append_assoc _ _ _) hW
  refine q_putF (ci := 9) (v := .ref q1) (ty := .object "Foundry$Plant") C hW hS (hwc hwX7) tyX7 tyX7_ok nmX7 0 rfl rfl 0 (by decide) (mc qw_287) (fun _ h9 => h9) rfl hnm rfl (by decide +kernel) rfl rfl (Nat.le_of_ble_eq_true rfl) dX7_init_12 (fun H locs hW hS => ?_)
  have hW : Wq G (W0 ++ ([(h0, .inr (9, [.ref q1, .null, .null, .int 0, .null, .int 0, .int 0, .null]))] ++ plq G a2)) H := hW
  refine lv_aload_n hx hb dX7_init_15 rfl (lv_at hl 0 rfl) ?_
  refine q_new (ci := 4) (fs := [.null, .int 0, .int 0]) C hW hS hA (hwc hwX2) tyX2 tyX2_ok (mc qw_200) (mc qw_201) (mc qw_75) rfl (fun j hj => by rcases (show j = 0 ∨ j = 1 ∨ j = 2 by omega) with rfl | rfl | rfl <;> rfl) (by decide) (by decide) dX7_init_16 (fun q3 H hW hS => ?_)
  have hW : Wq G (W0 ++ (([(h0, .inr (9, [.ref q1, .null, .null, .int 0, .null, .int 0, .int 0, .null]))] ++ plq G a2) ++ [(q3, .inr (4, [.null, .int 0, .int 0]))])) H := hW
  refine lv_dup hx hb dX7_init_19 rfl ?_
  have hWc : Wq G ((W0 ++ ([(h0, .inr (9, [.ref q1, .null, .null, .int 0, .null, .int 0, .int 0, .null]))] ++ plq G a2)) ++ [(q3, .inr (4, [.null, .int 0, .int 0]))]) H := Wq.cast (List.append_assoc _ _ _).symm hW
  refine q_callv (va_runI (As := []) (rest := [.ref q3, .ref h0]) C.1 (cX2_init_q l G (W0 ++ ([(h0, .inr (9, [.ref q1, .null, .null, .int 0, .null, .int 0, .int 0, .null]))] ++ plq G a2)) q3) (cwI 0 C.1.2.2.2.2 (gN qw_204) rfl rfl rfl (C.1.2.2.2.2 _ (mc qw_75)) (C.1.2.2.2.2 _ (mc qw_202)) (C.1.2.2.2.2 _ (mc qw_203)) rfl (by decide +kernel) ⟨Nat.le_of_ble_eq_true rfl, Nat.le_of_ble_eq_true rfl⟩) (q_pre C hO hWc hS [.ref q3]) rfl rfl hl.1 rfl (lv_room (Nat.le_of_ble_eq_true rfl)) dX7_init_20 ⟨by decide, by decide⟩) hS (fun V H locs hW hS hV => ?_)
  obtain ⟨s4, b5, rfl⟩ := hV
  replace hW : Wq G (W0 ++ (([(h0, .inr (9, [.ref q1, .null, .null, .int 0, .null, .int 0, .int 0, .null]))] ++ plq G a2) ++ hiq G q3 s4 b5)) H := Wq.cast (List.append_assoc _ _ _) hW
  refine q_putF (ci := 9) (v := .ref q3) (ty := .object "Foundry$History") C hW hS (hwc hwX7) tyX7 tyX7_ok nmX7 0 rfl rfl 1 (by decide) (mc qw_288) (fun _ h9 => h9) rfl hnm rfl (by decide +kernel) rfl rfl (Nat.le_of_ble_eq_true rfl) dX7_init_23 (fun H locs hW hS => ?_)
  have hW : Wq G (W0 ++ (([(h0, .inr (9, [.ref q1, .ref q3, .null, .int 0, .null, .int 0, .int 0, .null]))] ++ plq G a2) ++ hiq G q3 s4 b5)) H := hW
  refine lv_aload_n hx hb dX7_init_26 rfl (lv_at hl 0 rfl) ?_
  refine q_new (ci := 6) (fs := [.null, .null, .null, .null, .null, .int 0, .null, .int 0, .null, .null, .int 0]) C hW hS hA (hwc hwX4) tyX4 tyX4_ok (mc qw_112) (mc qw_113) (mc qw_72) rfl (fun j hj => by rcases (show j = 0 ∨ j = 1 ∨ j = 2 ∨ j = 3 ∨ j = 4 ∨ j = 5 ∨ j = 6 ∨ j = 7 ∨ j = 8 ∨ j = 9 ∨ j = 10 by omega) with rfl | rfl | rfl | rfl | rfl | rfl | rfl | rfl | rfl | rfl | rfl <;> rfl) (by decide) (by decide) dX7_init_27 (fun q6 H hW hS => ?_)
  have hW : Wq G (W0 ++ ((([(h0, .inr (9, [.ref q1, .ref q3, .null, .int 0, .null, .int 0, .int 0, .null]))] ++ plq G a2) ++ hiq G q3 s4 b5) ++ [(q6, .inr (6, [.null, .null, .null, .null, .null, .int 0, .null, .int 0, .null, .null, .int 0]))])) H := hW
  refine lv_dup hx hb dX7_init_30 rfl ?_
  have hWc : Wq G ((W0 ++ (([(h0, .inr (9, [.ref q1, .ref q3, .null, .int 0, .null, .int 0, .int 0, .null]))] ++ plq G a2) ++ hiq G q3 s4 b5)) ++ [(q6, .inr (6, [.null, .null, .null, .null, .null, .int 0, .null, .int 0, .null, .null, .int 0]))]) H := Wq.cast (List.append_assoc _ _ _).symm hW
  refine q_callv (va_runI (As := []) (rest := [.ref q6, .ref h0]) C.1 (cX4_init_q l G (W0 ++ (([(h0, .inr (9, [.ref q1, .ref q3, .null, .int 0, .null, .int 0, .int 0, .null]))] ++ plq G a2) ++ hiq G q3 s4 b5)) q6) (cwI 0 C.1.2.2.2.2 (gN qw_116) rfl rfl rfl (C.1.2.2.2.2 _ (mc qw_72)) (C.1.2.2.2.2 _ (mc qw_114)) (C.1.2.2.2.2 _ (mc qw_115)) rfl (by decide +kernel) ⟨Nat.le_of_ble_eq_true rfl, Nat.le_of_ble_eq_true rfl⟩) (q_pre C hO hWc hS [.ref q6]) rfl rfl hl.1 rfl (lv_room (Nat.le_of_ble_eq_true rfl)) dX7_init_31 ⟨by decide, by decide⟩) hS (fun V H locs hW hS hV => ?_)
  obtain ⟨a7, ha7, rfl⟩ := hV
  replace hW : Wq G (W0 ++ ((([(h0, .inr (9, [.ref q1, .ref q3, .null, .int 0, .null, .int 0, .int 0, .null]))] ++ plq G a2) ++ hiq G q3 s4 b5) ++ plq G a7)) H := Wq.cast (List.append_assoc _ _ _) hW
  refine q_putF (ci := 9) (v := .ref q6) (ty := .object "Foundry$Plant") C hW hS (hwc hwX7) tyX7 tyX7_ok nmX7 0 rfl rfl 2 (by decide) (mc qw_289) (fun _ h9 => h9) rfl hnm rfl (by decide +kernel) rfl rfl (Nat.le_of_ble_eq_true rfl) dX7_init_34 (fun H locs hW hS => ?_)
  have hW : Wq G (W0 ++ ((([(h0, .inr (9, [.ref q1, .ref q3, .ref q6, .int 0, .null, .int 0, .int 0, .null]))] ++ plq G a2) ++ hiq G q3 s4 b5) ++ plq G a7)) H := hW
  refine lv_aload_n hx hb dX7_init_37 rfl (lv_at hl 0 rfl) ?_
  refine lv_iconst (v := 0) hx hb dX7_init_38 (by decide) ?_
  refine q_put (ci := 9) (v := .int 0) (ty := .boolean) C hW hS (hwc hwX7) tyX7 tyX7_ok nmX7 0 rfl rfl 3 (by decide) (mc qw_290) (fun _ h9 => h9) rfl (by decide +kernel) rfl rfl (Nat.le_of_ble_eq_true rfl) dX7_init_39 (fun H locs hW hS => ?_)
  have hW : Wq G (W0 ++ ((([(h0, .inr (9, [.ref q1, .ref q3, .ref q6, .int 0, .null, .int 0, .int 0, .null]))] ++ plq G a2) ++ hiq G q3 s4 b5) ++ plq G a7)) H := hW
  refine lv_aload_n hx hb dX7_init_42 rfl (lv_at hl 0 rfl) ?_
  refine q_new (ci := 7) (fs := [.null, .int 0, .int 0, .null, .null, .int 0]) C hW hS hA (hwc hwX5) tyX5 tyX5_ok (mc qw_220) (mc qw_221) (mc qw_76) rfl (fun j hj => by rcases (show j = 0 ∨ j = 1 ∨ j = 2 ∨ j = 3 ∨ j = 4 ∨ j = 5 by omega) with rfl | rfl | rfl | rfl | rfl | rfl <;> rfl) (by decide) (by decide) dX7_init_43 (fun q8 H hW hS => ?_)
  have hW : Wq G (W0 ++ (((([(h0, .inr (9, [.ref q1, .ref q3, .ref q6, .int 0, .null, .int 0, .int 0, .null]))] ++ plq G a2) ++ hiq G q3 s4 b5) ++ plq G a7) ++ [(q8, .inr (7, [.null, .int 0, .int 0, .null, .null, .int 0]))])) H := hW
  refine lv_dup hx hb dX7_init_46 rfl ?_
  have hWc : Wq G ((W0 ++ ((([(h0, .inr (9, [.ref q1, .ref q3, .ref q6, .int 0, .null, .int 0, .int 0, .null]))] ++ plq G a2) ++ hiq G q3 s4 b5) ++ plq G a7)) ++ [(q8, .inr (7, [.null, .int 0, .int 0, .null, .null, .int 0]))]) H := Wq.cast (List.append_assoc _ _ _).symm hW
  refine q_callv (va_runIN (As := []) (rest := [.ref q8, .ref h0]) C.1 (cX5_init_q l G (W0 ++ ((([(h0, .inr (9, [.ref q1, .ref q3, .ref q6, .int 0, .null, .int 0, .int 0, .null]))] ++ plq G a2) ++ hiq G q3 s4 b5) ++ plq G a7)) q8) (⟨va_cnB 0 C.1.2.2.2.2 (gN qw_224) rfl rfl rfl (C.2.2.1.1 _ nw_26) (C.1.2.2.2.2 _ (mc qw_76)) (by decide +kernel) ⟨Nat.le_of_ble_eq_true rfl, Nat.le_of_ble_eq_true rfl⟩, rfl, C.1.2.2.2.2 _ (mc qw_223)⟩) (q_pre C hO hWc hS [.ref q8]) rfl rfl hl.1 rfl (lv_room (Nat.le_of_ble_eq_true rfl)) dX7_init_47 ⟨by decide, by decide⟩) hS (fun V H locs hW hS hV => ?_)
  obtain ⟨t9, c10, z11, rfl⟩ := hV
  replace hW : Wq G (W0 ++ (((([(h0, .inr (9, [.ref q1, .ref q3, .ref q6, .int 0, .null, .int 0, .int 0, .null]))] ++ plq G a2) ++ hiq G q3 s4 b5) ++ plq G a7) ++ scq G q8 t9 c10 z11)) H := Wq.cast (List.append_assoc _ _ _) hW
  refine q_putF (ci := 9) (v := .ref q8) (ty := .object "Foundry$Script") C hW hS (hwc hwX7) tyX7 tyX7_ok nmX7 0 rfl rfl 4 (by decide) (mc qw_291) (fun _ h9 => h9) rfl hnm rfl (by decide +kernel) rfl rfl (Nat.le_of_ble_eq_true rfl) dX7_init_50 (fun H locs hW hS => ?_)
  have hW : Wq G (W0 ++ (((([(h0, .inr (9, [.ref q1, .ref q3, .ref q6, .int 0, .ref q8, .int 0, .int 0, .null]))] ++ plq G a2) ++ hiq G q3 s4 b5) ++ plq G a7) ++ scq G q8 t9 c10 z11)) H := hW
  refine lv_aload_n hx hb dX7_init_53 rfl (lv_at hl 0 rfl) ?_
  refine lv_iconst (v := (-1)) hx hb dX7_init_54 (by decide) ?_
  refine q_put (ci := 9) (v := .int (-1)) (ty := .int) C hW hS (hwc hwX7) tyX7 tyX7_ok nmX7 0 rfl rfl 5 (by decide) (mc qw_292) (fun _ h9 => h9) rfl (by decide +kernel) rfl rfl (Nat.le_of_ble_eq_true rfl) dX7_init_55 (fun H locs hW hS => ?_)
  have hW : Wq G (W0 ++ (((([(h0, .inr (9, [.ref q1, .ref q3, .ref q6, .int 0, .ref q8, .int (-1), .int 0, .null]))] ++ plq G a2) ++ hiq G q3 s4 b5) ++ plq G a7) ++ scq G q8 t9 c10 z11)) H := hW
  refine lv_aload_n hx hb dX7_init_58 rfl (lv_at hl 0 rfl) ?_
  refine lv_iconst (v := (-1)) hx hb dX7_init_59 (by decide) ?_
  refine q_put (ci := 9) (v := .int (-1)) (ty := .int) C hW hS (hwc hwX7) tyX7 tyX7_ok nmX7 0 rfl rfl 6 (by decide) (mc qw_293) (fun _ h9 => h9) rfl (by decide +kernel) rfl rfl (Nat.le_of_ble_eq_true rfl) dX7_init_60 (fun H locs hW hS => ?_)
  have hW : Wq G (W0 ++ (((([(h0, .inr (9, [.ref q1, .ref q3, .ref q6, .int 0, .ref q8, .int (-1), .int (-1), .null]))] ++ plq G a2) ++ hiq G q3 s4 b5) ++ plq G a7) ++ scq G q8 t9 c10 z11)) H := hW
  refine lv_aload_n hx hb dX7_init_63 rfl (lv_at hl 0 rfl) ?_
  refine q_new (ci := 1) (fs := [.null, .int 0, .int 0, .int 0]) C hW hS hA (hwc hwJ4) tyJ4 tyJ4_ok (mc qw_254) (mc qw_255) (mc qw_78) rfl (fun j hj => by rcases (show j = 0 ∨ j = 1 ∨ j = 2 ∨ j = 3 by omega) with rfl | rfl | rfl | rfl <;> rfl) (by decide) (by decide) dX7_init_64 (fun q12 H hW hS => ?_)
  have hW : Wq G (W0 ++ ((((([(h0, .inr (9, [.ref q1, .ref q3, .ref q6, .int 0, .ref q8, .int (-1), .int (-1), .null]))] ++ plq G a2) ++ hiq G q3 s4 b5) ++ plq G a7) ++ scq G q8 t9 c10 z11) ++ [(q12, .inr (1, [.null, .int 0, .int 0, .int 0]))])) H := hW
  refine lv_dup hx hb dX7_init_67 rfl ?_
  have hWc : Wq G ((W0 ++ (((([(h0, .inr (9, [.ref q1, .ref q3, .ref q6, .int 0, .ref q8, .int (-1), .int (-1), .null]))] ++ plq G a2) ++ hiq G q3 s4 b5) ++ plq G a7) ++ scq G q8 t9 c10 z11)) ++ [(q12, .inr (1, [.null, .int 0, .int 0, .int 0]))]) H := Wq.cast (List.append_assoc _ _ _).symm hW
  refine q_callv (va_runI (As := []) (rest := [.ref q12, .ref h0]) C.1 (cJ4_init_da8c8_q l G (W0 ++ (((([(h0, .inr (9, [.ref q1, .ref q3, .ref q6, .int 0, .ref q8, .int (-1), .int (-1), .null]))] ++ plq G a2) ++ hiq G q3 s4 b5) ++ plq G a7) ++ scq G q8 t9 c10 z11)) q12) (cwI 0 C.1.2.2.2.2 (gN qw_258) rfl rfl rfl (C.1.2.2.2.2 _ (mc qw_78)) (C.1.2.2.2.2 _ (mc qw_256)) (C.1.2.2.2.2 _ (mc qw_257)) rfl (by decide +kernel) ⟨Nat.le_of_ble_eq_true rfl, Nat.le_of_ble_eq_true rfl⟩) (q_pre C hO hWc hS [.ref q12]) rfl rfl hl.1 rfl (lv_room (Nat.le_of_ble_eq_true rfl)) dX7_init_68 ⟨by decide, by decide⟩) hS (fun V H locs hW hS hV => ?_)
  obtain ⟨b13, rfl⟩ := hV
  replace hW : Wq G (W0 ++ ((((([(h0, .inr (9, [.ref q1, .ref q3, .ref q6, .int 0, .ref q8, .int (-1), .int (-1), .null]))] ++ plq G a2) ++ hiq G q3 s4 b5) ++ plq G a7) ++ scq G q8 t9 c10 z11) ++ sbq G q12 b13)) H := Wq.cast (List.append_assoc _ _ _) hW
  refine q_putF (ci := 9) (v := .ref q12) (ty := .object "java/lang/StringBuilder") C hW hS (hwc hwX7) tyX7 tyX7_ok nmX7 0 rfl rfl 7 (by decide) (mc qw_294) (fun _ h9 => h9) rfl hnm rfl (by decide +kernel) rfl rfl (Nat.le_of_ble_eq_true rfl) dX7_init_71 (fun H locs hW hS => ?_)
  have hW : Wq G (W0 ++ ((((([(h0, .inr (9, [.ref q1, .ref q3, .ref q6, .int 0, .ref q8, .int (-1), .int (-1), .ref q12]))] ++ plq G a2) ++ hiq G q3 s4 b5) ++ plq G a7) ++ scq G q8 t9 c10 z11) ++ sbq G q12 b13)) H := hW
  refine W.widen (k := 783) (n := 2510) (by decide) (by decide) ?_
  exact q_vret C hr hlk hW hS dX7_init_74 ⟨a2, q3, s4, b5, a7, q8, t9, c10, z11, q12, b13, by unfold foq; rw [ha2, ha7]⟩
