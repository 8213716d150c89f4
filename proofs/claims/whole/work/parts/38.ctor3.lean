/-! The builder is made; furnace and ladle while the reference is made. -/
theorem dJ5_init_d00df_0 : decode cJ5_init_d00df 0 = .ok (.aload_n 0, 1) := by decide +kernel
theorem dJ5_init_d00df_1 : decode cJ5_init_d00df 1 = .ok (.invokespecial 3, 3) := by decide +kernel
theorem dJ5_init_d00df_4 : decode cJ5_init_d00df 4 = .ok (.getstatic 18, 3) := by decide +kernel
theorem dJ5_init_d00df_7 : decode cJ5_init_d00df 7 = .ok (.ifCond .eq 18, 3) := by decide +kernel
theorem dJ5_init_d00df_10 : decode cJ5_init_d00df 10 = .ok (.aload_n 0, 1) := by decide +kernel
theorem dJ5_init_d00df_11 : decode cJ5_init_d00df 11 = .ok (.iload_n 1, 1) := by decide +kernel
theorem dJ5_init_d00df_12 : decode cJ5_init_d00df 12 = .ok (.newarray .byte, 2) := by decide +kernel
theorem dJ5_init_d00df_14 : decode cJ5_init_d00df 14 = .ok (.putfield 15, 3) := by decide +kernel
theorem dJ5_init_d00df_17 : decode cJ5_init_d00df 17 = .ok (.aload_n 0, 1) := by decide +kernel
theorem dJ5_init_d00df_18 : decode cJ5_init_d00df 18 = .ok (.iconst 0, 1) := by decide +kernel
theorem dJ5_init_d00df_19 : decode cJ5_init_d00df 19 = .ok (.putfield 22, 3) := by decide +kernel
theorem dJ5_init_d00df_22 : decode cJ5_init_d00df 22 = .ok (.goto 16, 3) := by decide +kernel
theorem dJ5_init_d00df_25 : decode cJ5_init_d00df 25 = .ok (.aload_n 0, 1) := by decide +kernel
theorem dJ5_init_d00df_26 : decode cJ5_init_d00df 26 = .ok (.iload_n 1, 1) := by decide +kernel
theorem dJ5_init_d00df_27 : decode cJ5_init_d00df 27 = .ok (.invokestatic 26, 3) := by decide +kernel
theorem dJ5_init_d00df_30 : decode cJ5_init_d00df 30 = .ok (.putfield 15, 3) := by decide +kernel
theorem dJ5_init_d00df_33 : decode cJ5_init_d00df 33 = .ok (.aload_n 0, 1) := by decide +kernel
theorem dJ5_init_d00df_34 : decode cJ5_init_d00df 34 = .ok (.iconst 1, 1) := by decide +kernel
theorem dJ5_init_d00df_35 : decode cJ5_init_d00df 35 = .ok (.putfield 22, 3) := by decide +kernel
theorem dJ5_init_d00df_38 : decode cJ5_init_d00df 38 = .ok (.return_, 1) := by decide +kernel
theorem dJ4_init_da8c8_0 : decode cJ4_init_da8c8 0 = .ok (.aload_n 0, 1) := by decide +kernel
theorem dJ4_init_da8c8_1 : decode cJ4_init_da8c8 1 = .ok (.bipush 16, 2) := by decide +kernel
theorem dJ4_init_da8c8_3 : decode cJ4_init_da8c8 3 = .ok (.invokespecial 1, 3) := by decide +kernel
theorem dJ4_init_da8c8_6 : decode cJ4_init_da8c8 6 = .ok (.return_, 1) := by decide +kernel
theorem qw_259 : Cond.methodLink "java/lang/StringBuilder" 1 ⟨"java/lang/AbstractStringBuilder", "<init>", "(I)V"⟩ ∈ lw_all := lw_mem 259 (by decide +kernel) (by decide +kernel)
theorem qw_260 : Cond.instanceMethod ⟨"java/lang/AbstractStringBuilder", "<init>", "(I)V"⟩ ∈ lw_all := lw_mem 260 (by decide +kernel) (by decide +kernel)
theorem qw_261 : Cond.code ⟨"java/lang/AbstractStringBuilder", "<init>", "(I)V"⟩ prog_12_method_2_code 2 (none : Option FieldType) ∈ lw_all := lw_mem 261 (by decide +kernel) (by decide +kernel)
theorem qw_262 : Cond.methodLink "java/lang/AbstractStringBuilder" 3 ⟨"java/lang/Object", "<init>", "()V"⟩ ∈ lw_all := lw_mem 262 (by decide +kernel) (by decide +kernel)
set_option maxHeartbeats 4000000 in
set_option maxRecDepth 100000 in
theorem cJ5_init_d00df_q (l : Launch) (G : GT) (W0 : va_W) (h0 : Nat) : MetC l G 1 16 yJ5_init_d00df (wsG yJ5_init_d00df cJ5_init_d00df 2 none) (rmc 1 1 16 40) [.ref h0, .int 16] (W0 ++ [(h0, .inr (1, [.null, .int 0, .int 0, .int 0]))]) (fun V => ∃ q1, V = W0 ++ [(h0, .inr (1, [.ref q1, .int 0, .int 0, .int 0])), (q1, .inl (cy G 2, 16, .inl (fun _ => 0)))]) := by
  refine q_met (cc := cJ5_init_d00df) (maxL := 2) (ret := none) (by decide) rfl (Nat.le_of_ble_eq_true rfl) ?_
  intro p e s m below meth c ls C hr hlk hnm hO hW hl
  have hx := C.1.1
  have hb := C.1.2.1
  have hS : va_S (Ab G) s.heap s.heap [] := va_S.rf
  have hA : ∀ q, s.heap.size ≤ q → Ab G q := fun q h => hW.ab (k := W0.length + 0) (ql_at rfl) h
  have hl : lv_has ls 2 [(0, .ref h0), (1, .int 16)] := hl
  refine lv_aload_n hx hb dJ5_init_d00df_0 rfl (lv_at hl 0 rfl) ?_
  refine q_obj C hl.1 (mc qw_262) (mc qw_110) (mc qw_111) dJ5_init_d00df_1 (by decide) (by decide) (by decide) ?_
  refine va_gets (v := .int 1) C.1.1 C.1.2.1 C.2.2.2.2.2.2.2.2.2.2.2.2.2.1 hS C.1.2.2.2.1 (C.1.2.2.2.2 _ (mc qw_263)) (fun _ h => h) dJ5_init_d00df_4 ?_
  refine lv_if_eq (tgt := 25) hx hb dJ5_init_d00df_7 (by decide) (fun h9 => absurd h9 (by decide)) (fun _ => ?_)
  refine lv_aload_n hx hb dJ5_init_d00df_10 rfl (lv_at hl 0 rfl) ?_
  refine lv_iload_n hx hb dJ5_init_d00df_11 rfl (lv_at hl 1 rfl) ?_
  refine q_newa (atype := .byte) (a0 := (16, .inl (fun _ => 0))) (N' := 16) C hW hS hA rfl (mc qw_286) 2 rfl (fun cA => rfl) (by decide) rfl (by decide) (by decide) (by decide) dJ5_init_d00df_12 (fun q1 H hW hS => ?_)
  have hW : Wq G (W0 ++ [(h0, .inr (1, [.null, .int 0, .int 0, .int 0])), (q1, .inl (cy G 2, 16, .inl (fun _ => 0)))]) H := hW
  refine q_put (ci := 1) (v := .ref q1) (ty := .array .byte) C hW hS (hwc hwJ4) tyJ4 tyJ4_ok nmJ4 0 rfl rfl 0 (by decide) (mc qw_272) (fun _ h9 => h9) rfl (by decide +kernel) rfl rfl (Nat.le_of_ble_eq_true rfl) dJ5_init_d00df_14 (fun H locs hW hS => ?_)
  have hW : Wq G (W0 ++ [(h0, .inr (1, [.ref q1, .int 0, .int 0, .int 0])), (q1, .inl (cy G 2, 16, .inl (fun _ => 0)))]) H := hW
  refine lv_aload_n hx hb dJ5_init_d00df_17 rfl (lv_at hl 0 rfl) ?_
  refine lv_iconst (v := 0) hx hb dJ5_init_d00df_18 (by decide) ?_
  refine q_put (ci := 1) (v := .int 0) (ty := .byte) C hW hS (hwc hwJ4) tyJ4 tyJ4_ok nmJ4 0 rfl rfl 1 (by decide) (mc qw_273) (fun _ h9 => h9) rfl (by decide +kernel) rfl rfl (Nat.le_of_ble_eq_true rfl) dJ5_init_d00df_19 (fun H locs hW hS => ?_)
  have hW : Wq G (W0 ++ [(h0, .inr (1, [.ref q1, .int 0, .int 0, .int 0])), (q1, .inl (cy G 2, 16, .inl (fun _ => 0)))]) H := hW
  refine lv_goto (tgt := 38) hx hb dJ5_init_d00df_22 (by decide) ?_
  refine W.widen (k := 1) (n := 16) (by decide) (by decide) ?_
  exact q_vret C hr hlk hW hS dJ5_init_d00df_38 ⟨q1, rfl⟩
set_option maxHeartbeats 4000000 in
set_option maxRecDepth 100000 in
theorem cJ4_init_da8c8_q (l : Launch) (G : GT) (W0 : va_W) (h0 : Nat) : MetC l G 1 16 yJ4_init_da8c8 (wsG yJ4_init_da8c8 cJ4_init_da8c8 1 none) (rmc 2 1 16 61) [.ref h0] (W0 ++ [(h0, .inr (1, [.null, .int 0, .int 0, .int 0]))]) (fun V => ∃ q1, V = W0 ++ [(h0, .inr (1, [.ref q1, .int 0, .int 0, .int 0])), (q1, .inl (cy G 2, 16, .inl (fun _ => 0)))]) := by
  refine q_met (cc := cJ4_init_da8c8) (maxL := 1) (ret := none) (by decide) rfl (Nat.le_of_ble_eq_true rfl) ?_
  intro p e s m below meth c ls C hr hlk hnm hO hW hl
  have hx := C.1.1
  have hb := C.1.2.1
  have hS : va_S (Ab G) s.heap s.heap [] := va_S.rf
  have hA : ∀ q, s.heap.size ≤ q → Ab G q := fun q h => hW.ab (k := W0.length + 0) (ql_at rfl) h
  have hl : lv_has ls 1 [(0, .ref h0)] := hl
  refine lv_aload_n hx hb dJ4_init_da8c8_0 rfl (lv_at hl 0 rfl) ?_
  refine lv_bipush (v := 16) hx hb dJ4_init_da8c8_1 (by decide) ?_
  refine q_callv (va_runI (As := [.int 16]) (rest := []) C.1 (cJ5_init_d00df_q l G W0 h0) (cwI 1 C.1.2.2.2.2 (gN qw_261) rfl rfl rfl (C.1.2.2.2.2 _ (mc qw_77)) (C.1.2.2.2.2 _ (mc qw_259)) (C.1.2.2.2.2 _ (mc qw_260)) rfl (by decide +kernel) ⟨Nat.le_of_ble_eq_true rfl, Nat.le_of_ble_eq_true rfl⟩) (q_pre C hO hW hS [.ref h0, .int 16]) rfl rfl hl.1 rfl (lv_room (Nat.le_of_ble_eq_true rfl)) dJ4_init_da8c8_3 ⟨by decide, by decide⟩) hS (fun V H locs hW hS hV => ?_)
  exact q_vret C hr hlk hW hS dJ4_init_da8c8_6 hV

theorem q_iret {p : Program} {l : Launch} {e : Env} {R : Room} {s : State} {m : MethodId} {args : Array Value} {below : List Frame} {meth : Method} {c : Code} {H : Heap} {locs : List Loc} {cells slots : Nat} {cc : ByteArray} {nL pc : Nat} {ls : Array Slot} {G : GT} {Ts : List Cond} {own : String} (C : Cx p m c cc nL s args Ts own G) (hr : meth.sig.returnType = some .int) (hlk : meth.locks = false) {V : va_W} (hW : Wq G V H) (hS : va_S (Ab G) s.heap H locs) {post : Int32 → va_W → Prop} {v : Int32} (hdg : decode cc pc = .ok (.ireturn, 1)) (hp : post v V) : W p l e R s m args below meth c H locs cells slots (MQ below (va_Qi post (fun V t => Wq G V t.heap) (Ab G)) args s cells slots (Ab G)) (F0 m pc ls [.int v]) :=
  W.iret C.1.1 C.1.2.1 hr (fun _ ht hw => ⟨⟨v, V, rfl, hp, (by show Wq G V _; rw [ht]; exact hW)⟩, hS.F ht⟩) hS.2.2 hdg hlk
theorem q_calli {p : Program} {l : Launch} {e : Env} {R : Room} {s : State} {m : MethodId} {args : Array Value} {below : List Frame} {meth : Method} {c : Code} {H : Heap} {locs : List Loc} {cells slots : Nat} {Q : State → Prop} {pc : Nat} {ls : Array Slot} {rest : List Value} {G : GT} {post : Int32 → va_W → Prop} {a : Array Value} {st0 : List Value} (hr : va_Run p l e R s m args below meth c H locs cells slots 0 0 (F0 m pc ls st0) rest (va_Qi post (fun V t => Wq G V t.heap) (Ab G) a) (Ab G)) (hS : va_S (Ab G) s.heap H locs)
    (kk : ∀ (r : Int32) (V : va_W) (H1 : Heap) (locs1 : List Loc), Wq G V H1 → va_S (Ab G) s.heap H1 locs1 → post r V → W p l e R s m args below meth c H1 locs1 cells slots Q (F0 m (pc + 3) ls (.int r :: rest))) : W p l e R s m args below meth c H locs cells slots Q (F0 m pc ls st0) :=
  va_calli hr hS (fun _ _ h => h) (fun _ h => h) (fun r V _ H1 locs1 ht _ hp hB _ _ hS1 => kk r V H1 locs1 (by rw [← ht]; exact hB) hS1 hp)

set_option maxHeartbeats 4000000 in
theorem cX8_furnace_q (l : Launch) (G : GT) (V : va_W) (x : Int32) : Met l yX8_furnace (wsG yX8_furnace cX8_furnace 1 (some .int)) (rmc 0 0 0 0) (Kpq G [.int x] V) (va_Qi (fun r V' => r = oM_furnace x ∧ V' = V) (fun V t => Wq G V t.heap) (Ab G)) 0 0 (Ab G) := by
  refine q_met (cc := cX8_furnace) (maxL := 1) (ret := some .int) (by decide) rfl (Nat.le_of_ble_eq_true rfl) ?_
  intro p e s m below meth c ls C hr hlk hnm hO hW hl
  have hx := C.1.1
  have hb := C.1.2.1
  have hS : va_S (Ab G) s.heap s.heap [] := va_S.rf
  have hl : lv_has ls 1 [(0, .int x)] := hl
  refine lv_bipush (v := 9) hx hb dX8_furnace_0 (by decide) ?_
  refine lv_bipush (v := 6) hx hb dX8_furnace_2 (by decide) ?_
  refine lv_iload_n hx hb dX8_furnace_4 rfl (lv_at hl 0 rfl) ?_
  refine lv_imul hx hb dX8_furnace_5 ?_
  refine lv_iadd hx hb dX8_furnace_6 ?_
  exact q_iret C hr hlk hW hS dX8_furnace_7 ⟨rfl, rfl⟩

set_option maxHeartbeats 4000000 in
theorem cX8_ladle_q (l : Launch) (G : GT) (V : va_W) (x : Int32) : Met l yX8_ladle (wsG yX8_ladle cX8_ladle 1 (some .int)) (rmc 0 0 0 0) (Kpq G [.int x] V) (va_Qi (fun r V' => r = oM_ladle x ∧ V' = V) (fun V t => Wq G V t.heap) (Ab G)) 0 0 (Ab G) := by
  refine q_met (cc := cX8_ladle) (maxL := 1) (ret := some .int) (by decide) rfl (Nat.le_of_ble_eq_true rfl) ?_
  intro p e s m below meth c ls C hr hlk hnm hO hW hl
  have hx := C.1.1
  have hb := C.1.2.1
  have hS : va_S (Ab G) s.heap s.heap [] := va_S.rf
  have hl : lv_has ls 1 [(0, .int x)] := hl
  refine lv_bipush (v := 27) hx hb dX8_ladle_0 (by decide) ?_
  refine lv_iconst (v := 5) hx hb dX8_ladle_2 (by decide) ?_
  refine lv_iload_n hx hb dX8_ladle_3 rfl (lv_at hl 0 rfl) ?_
  refine lv_imul hx hb dX8_ladle_4 ?_
  refine lv_iadd hx hb dX8_ladle_5 ?_
  exact q_iret C hr hlk hW hS dX8_ladle_6 ⟨rfl, rfl⟩
