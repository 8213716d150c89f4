/-! The constructors of history, script, builder. -/
theorem vaD_app {A : Nat → Prop} {V E : va_W} {n : Nat} (hV : va_D A V) (h1 : ∀ (k : Nat) (x : Nat × va_E), V[k]? = some x → x.1 < n) (hE : ∀ (k : Nat) (x : Nat × va_E), E[k]? = some x → x.1 = n + k) (hA : ∀ q, n ≤ q → A q) : va_D A (V ++ E) := by
  have cs : ∀ (k : Nat) (x : Nat × va_E), (V ++ E)[k]? = some x → (k < V.length ∧ V[k]? = some x) ∨ (V.length ≤ k ∧ x.1 = n + (k - V.length)) := by
    intro k x hx
    rcases Nat.lt_or_ge k V.length with h | h
    · rw [List.getElem?_append_left h] at hx
      exact .inl ⟨h, hx⟩
    · rw [List.getElem?_append_right h] at hx
      exact .inr ⟨h, hE _ _ hx⟩
  refine ⟨fun i j p q hp hq e => ?_, fun k q hq => ?_⟩
  · rcases cs i p hp with ⟨a1, a2⟩ | ⟨a1, a2⟩ <;> rcases cs j q hq with ⟨b1, b2⟩ | ⟨b1, b2⟩
    · exact hV.1 i j p q a2 b2 e
    · have := h1 i p a2
      omega
    · have := h1 j q b2
      omega
    · omega
  · rcases cs k q hq with ⟨a1, a2⟩ | ⟨a1, a2⟩
    · exact hV.2 k q a2
    · exact hA _ (by omega)
/-- the rows of the script's arguments, behind the array that holds them -/
def rowq (G : GT) (z : Nat) : va_W := (List.range 60).map fun j => (z + 1 + j, .inl (cy G 0, 3, .inl (fun _ => 0)))
def argq (G : GT) (z : Nat) : va_E := .inl (cy G 9, 60, .inr (.inr (.inr (.inr (fun j => if j < 60 then some (z + 1 + j) else none)))))
theorem arrV_sl {cA : ClassId} {N : Nat} {sl : Array Value} {f : Nat → Value} (h3 : sl.size = N) (h4 : ∀ j, j < N → sl[j]? = some (f j)) : ({ cls := cA, slots := sl, vm := .none } : Cell) = arrV cA N f := by
  unfold arrV
  have e : sl = Array.ofFn (n := N) fun j => f j.val := by
    apply Array.ext
    · rw [h3, Array.size_ofFn]
    · intro j hj1 hj2
      have e1 : sl[j]? = some sl[j] := Array.getElem?_eq_getElem hj1
      rw [Array.getElem_ofFn]
      exact Option.some.inj (e1.symm.trans (h4 j (by omega)))
  rw [e]
theorem oc_shape (cA : ClassId) (N h0 : Nat) : ∀ i, ∃ sl, Jvm.Free.Multi.outerC cA N h0 i = { cls := cA, slots := sl, vm := .none }
  | 0 => ⟨_, rfl⟩
  | i + 1 => by
    obtain ⟨sl, h⟩ := oc_shape cA N h0 i
    exact ⟨_, by rw [Jvm.Free.Multi.outerC, h]; rfl⟩
section QROWS2
variable {p : Program} {l : Launch} {e : Env} {R : Room} {s : State} {m : MethodId} {args : Array Value} {below : List Frame} {meth : Method} {c : Code} {H : Heap} {locs : List Loc} {cells slots : Nat} {Q : State → Prop}
variable {cc : ByteArray} {nL pc : Nat} {ls : Array Slot} {rest : List Value} {G : GT} {W0 T : va_W} {Ts : List Cond} {own : String}
set_option maxHeartbeats 4000000 in
set_option maxRecDepth 100000 in
theorem q_multi (C : Cx p m c cc nL s args Ts own G) (hO : EnvA s) (hW : Wq G (W0 ++ T) H) (hS : va_S (Ab G) s.heap H locs) (hA : ∀ q, s.heap.size ≤ q → Ab G q) {index : Nat} (hcl : Cond.classLink own index "[[I" ∈ Ts) (harr : Cond.arrayClass .int ∈ Ts) (hcells : cells + 61 ≤ R.cells) (hslots : slots + 240 ≤ R.slots) (hdg : decode cc pc = .ok (.multianewarray index 2, 4))
    (kk : ∀ (z : Nat) (H1 : Heap), Wq G (W0 ++ (T ++ ([(z, argq G z)] ++ rowq G z))) H1 → va_S (Ab G) s.heap H1 locs → W p l e R s m args below meth c H1 locs (cells + 61) (slots + 240) Q (F0 m (pc + 4) ls (.ref z :: rest))) : W p l e R s m args below meth c H locs cells slots Q (F0 m pc ls (.int 3 :: .int 60 :: rest)) := by
  intro T9 hT X
  obtain ⟨vm₁, cA, comp, hW1, hfA, hfC, hO1, hI1, X1, st⟩ := X.multianewarray2F C.1.1 (own := own) (index := index) (ty := .int) C.1.2.2.2.1 (C.1.2.2.2.2 _ hcl) (by have := hO.2; exact Stand.arrayOver_alikeB (Vm.Alike.refl s.vm) this) (C.1.2.2.2.2 _ harr) (g := F0 m pc ls (.int 3 :: .int 60 :: rest)) rfl (by rw [C.1.2.1]; exact hdg) (n := 60) (k := 3) (rest := rest) rfl (by decide) (by decide) (by decide) (by decide) (by decide) (by decide) (by decide) (by show cells + (1 + 60) ≤ _; omega) (by show slots + (60 + 60 * 3) ≤ _; omega)
  obtain ⟨f1, f2, f3, f4⟩ := Jvm.Free.Multi.fill_facts (T9.setVm vm₁) cA comp 60 3 (defaultValue .int) 60
  have fo := fun (a : Addr) (ha : a < T9.heap.size) => Jvm.Free.Multi.fill_old (T9.setVm vm₁) cA comp 60 3 (defaultValue .int) (a := a) ha 60
  have fi := fun (j : Nat) (hj : j < 60) => Jvm.Free.Multi.fill_inner (T9.setVm vm₁) cA comp 60 3 (defaultValue .int) 60 j hj
  obtain ⟨o1, o2, o3⟩ := Jvm.Free.Multi.outerC_facts cA 60 T9.heap.size 60
  have os := fun (j : Nat) (hj : j < 60) => Jvm.Free.Multi.outerC_slot cA 60 T9.heap.size 60 j hj
  have eC : comp = cy G 0 := ra_inj (ty := .int) (U := s) hfC (C.2.1.2 0 _ rfl).2
  have eA : cA = cy G 9 := ra_inj (ty := .array .int) (U := s) hfA (C.2.1.2 9 _ rfl).2
  subst eC
  subst eA
  obtain ⟨H1, hH1⟩ : ∃ H1, H1 = (Jvm.Free.Multi.fill (T9.setVm vm₁) (cy G 9) (cy G 0) 60 3 (defaultValue .int) 60).heap := ⟨_, rfl⟩
  have hsz : (T9.setVm vm₁).heap.size = H.size := by rw [← hT]; rfl
  have hTs : T9.heap.size = H.size := by rw [hT]
  have kept : ∀ a, a < H.size → H1[a]? = H[a]? := fun a ha => by
    have e1 := fo a (by rw [hT]; exact ha)
    rw [hH1, e1, ← hT]
    rfl
  have hP1 : va_P (gD G) vwCl ((W0 ++ T) ++ ([(H.size, argq G H.size)] ++ rowq G H.size)) H1 := by
    refine (hW.1.kept fun k x hx => kept x.1 ((hW.1 k x hx).lt)).app fun k x hx => ?_
    match k, hx with
    | 0, hx =>
      have : x = (H.size, argq G H.size) := (Option.some.inj hx).symm
      subst this
      show H1[H.size]? = some (vp_cell (cy G 9) (60, .inr (.inr (.inr (.inr (fun j => if j < 60 then some (H.size + 1 + j) else none))))))
      have e1 : H1[H.size]? = some (Jvm.Free.Multi.outerC (cy G 9) 60 H.size 60) := by
        rw [hH1, ← hsz]
        exact f2
      obtain ⟨sl, hsl⟩ := oc_shape (cy G 9) 60 H.size 60
      rw [hTs] at os o3
      rw [hsl] at os o3 e1
      refine e1.trans (congrArg some (arrV_sl (N := 60) (f := fun j => va_rf (if j < 60 then some (H.size + 1 + j) else none)) o3 fun j hj => ?_))
      refine (os j hj).trans ?_
      show some (if j < 60 then Value.ref (H.size + 1 + j) else Value.null) = some (va_rf (if j < 60 then some (H.size + 1 + j) else none))
      rw [if_pos hj, if_pos hj]
      rfl
    | k + 1, hx =>
      have hx' : (rowq G H.size)[k]? = some x := hx
      unfold rowq at hx'
      rw [List.getElem?_map] at hx'
      have hk : k < 60 := by
        rcases Nat.lt_or_ge k 60 with q | q
        · exact q
        · rw [List.getElem?_eq_none (by simpa using q)] at hx'
          cases hx'
      rw [List.getElem?_range hk] at hx'
      have : x = (H.size + 1 + k, .inl (cy G 0, 3, .inl (fun _ => 0))) := (Option.some.inj hx').symm
      subst this
      show H1[H.size + 1 + k]? = some (vp_cell (cy G 0) (3, .inl (fun _ => 0)))
      have e1 : H1[H.size + 1 + k]? = some (Jvm.Free.Multi.innerC (cy G 0) 3 (defaultValue .int)) := by
        rw [hH1, ← hsz]
        exact fi k hk
      refine e1.trans (congrArg some (arrV_sl (N := 3) (f := fun _ => .int 0) (by simp) fun j hj => ?_))
      simp [hj, defaultValue]
  have hD1 : va_D (Ab G) ((W0 ++ T) ++ ([(H.size, argq G H.size)] ++ rowq G H.size)) := by
    refine vaD_app (n := H.size) hW.2 (fun k x hx => (hW.1 k x hx).lt) (fun k x hx => ?_) (fun q hq => hA q (Nat.le_trans hS.1 hq))
    match k, hx with
    | 0, hx =>
      have : x = (H.size, argq G H.size) := (Option.some.inj hx).symm
      subst this
      rfl
    | k + 1, hx =>
      have hx' : (rowq G H.size)[k]? = some x := hx
      unfold rowq at hx'
      rw [List.getElem?_map] at hx'
      have hk : k < 60 := by
        rcases Nat.lt_or_ge k 60 with q | q
        · exact q
        · rw [List.getElem?_eq_none (by simpa using q)] at hx'
          cases hx'
      rw [List.getElem?_range hk] at hx'
      have : x = (H.size + 1 + k, .inl (cy G 0, 3, .inl (fun _ => 0))) := (Option.some.inj hx').symm
      subst this
      show H.size + 1 + k = H.size + (k + 1)
      omega
  rw [List.append_assoc] at hP1 hD1
  have hS1 : va_S (Ab G) s.heap H1 locs := ⟨by
    have : H1.size = (T9.setVm vm₁).heap.size + 1 + 60 := by rw [hH1]; exact f1
    have := hS.1
    omega, fun q h1 h2 => (kept q (Nat.lt_of_lt_of_le h1 hS.1)).trans (hS.2.1 q h1 h2), hS.2.2⟩
  obtain ⟨t, a, b⟩ := kk H.size H1 ⟨hP1, hD1⟩ hS1 _ hH1.symm X1
  refine ⟨t, st t ?_, b⟩
  rw [hTs]
  exact a
end QROWS2
theorem qw_113 : Cond.instantiable "Foundry$Plant" 11 ∈ lw_all := lw_mem 113 (by decide +kernel) (by decide +kernel)
theorem qw_206 : Cond.classLink "Foundry$History" 11 "Foundry$Plant" ∈ lw_all := lw_mem 206 (by decide +kernel) (by decide +kernel)
theorem qw_226 : Cond.classLink "Foundry$Script" 22 "Foundry$Command" ∈ lw_all := lw_mem 226 (by decide +kernel) (by decide +kernel)
theorem qw_228 : Cond.classLink "Foundry$Script" 28 "[[I" ∈ lw_all := lw_mem 228 (by decide +kernel) (by decide +kernel)
theorem qw_253 : Cond.arrayClass FieldType.char ∈ lw_all := lw_mem 253 (by decide +kernel) (by decide +kernel)
theorem plq_0 (G : GT) (a : Nat → Nat) : (plq G a)[0]? = some (a 0, .inr (6, [.ref (a 1), .ref (a 2), .ref (a 3), .ref (a 4), .ref (a 5), .int 0, .ref (a 6), .int 0, .ref (a 7), .ref (a 9), .int 0])) := by
  rw [plq_eq]
  rfl
set_option maxHeartbeats 4000000 in
set_option maxRecDepth 100000 in
theorem it_h {p : Program} {l : Launch} {e : Env} {R : Room} {s : State} {m : MethodId} {args : Array Value} {below : List Frame} {meth : Method} {c : Code} {H : Heap} {locs : List Loc} {cells slots : Nat} {Q : State → Prop} {ls : Array Slot} {G : GT} {W0 : va_W} (C : Cx p m c cX2_init 2 s args (wsG yX2_init cX2_init 2 none) yX2_init.cls G) (hO : EnvA s) (hA : ∀ q, s.heap.size ≤ q → Ab G q) (P : (Nat → Option Nat) → va_W) (S : va_W) (f : Nat → Option Nat) (aa h0 : Nat) (fs : List Value) (hP0 : (P f)[0]? = some (h0, .inr (4, fs))) (hfs : fs[0]? = some (.ref aa)) (hP1 : (P f)[1]? = some (aa, .inl (cy G 7, 9, .inr (.inr (.inr (.inr f)))))) (hP2 : ∀ g, (P f).set 1 (aa, .inl (cy G 7, 9, .inr (.inr (.inr (.inr g))))) = P g) (i : Nat) (hi : i < 9) (hW : Wq G (W0 ++ (P f ++ S)) H) (hS : va_S (Ab G) s.heap H locs) (hl : lv_has ls 2 [(1, .int (nI i)), (0, .ref h0)]) (hfr : 4 ≤ R.frames) (hlo : 102 ≤ R.locals) (hc1 : cells + 1 + 64 ≤ R.cells) (hc2 : slots + 11 + 181 ≤ R.slots)
    (kk : ∀ (a9 : Nat → Nat) (H1 : Heap) (locs1 : List Loc) (ls1 : Array Slot), Wq G (W0 ++ (P (va_up f i (some (a9 0))) ++ (S ++ plq G a9))) H1 → va_S (Ab G) s.heap H1 locs1 → lv_has ls1 2 [(1, .int (nI (i + 1))), (0, .ref h0)] → W p l e R s m args below meth c H1 locs1 (cells + 1 + 64) (slots + 11 + 181) Q (F0 m 25 ls1 [])) : W p l e R s m args below meth c H locs cells slots Q (F0 m 25 ls []) := by
  have hx := C.1.1
  have hb := C.1.2.1
  have hPl : 1 < (P f).length := (List.getElem?_eq_some_iff.mp hP1).1
  refine lv_iload_n hx hb dX2_init_25 rfl (lv_at hl 0 rfl) ?_
  refine lv_bipush (v := 9) hx hb dX2_init_26 (by decide) ?_
  refine lv_icmp_ge (tgt := 50) hx hb dX2_init_28 (by decide) (fun h9 => absurd h9 (nI_ge (a := i) (b := 9) (by omega) (by omega))) (fun _ => ?_)
  refine lv_aload_n hx hb dX2_init_31 rfl (lv_at hl 1 rfl) ?_
  refine q_get (ci := 4) C hW (hwc hwX2) 0 (it_at hP0) rfl 0 (by decide) (mc qw_209) (fun _ h9 => h9) hfs dX2_init_32 ?_
  refine lv_iload_n hx hb dX2_init_35 rfl (lv_at hl 0 rfl) ?_
  refine q_new (ci := 6) (fs := [.null, .null, .null, .null, .null, .int 0, .null, .int 0, .null, .null, .int 0]) C hW hS hA (hwc hwX4) tyX4 tyX4_ok (mc qw_206) (mc qw_113) (mc qw_72) rfl (fun j hj => by rcases (show j = 0 ∨ j = 1 ∨ j = 2 ∨ j = 3 ∨ j = 4 ∨ j = 5 ∨ j = 6 ∨ j = 7 ∨ j = 8 ∨ j = 9 ∨ j = 10 by omega) with rfl | rfl | rfl | rfl | rfl | rfl | rfl | rfl | rfl | rfl | rfl <;> rfl) (by omega) (by omega) dX2_init_36 (fun q9 H hW hS => ?_)
  refine lv_dup hx hb dX2_init_39 rfl ?_
  have hWc : Wq G ((W0 ++ (P f ++ S)) ++ [(q9, .inr (6, [.null, .null, .null, .null, .null, .int 0, .null, .int 0, .null, .null, .int 0]))]) H := Wq.cast (List.append_assoc _ _ _).symm hW
  refine q_callv (va_runI (As := []) (rest := [.ref q9, .int (nI i), .ref aa]) C.1 (cX4_init_q l G (W0 ++ (P f ++ S)) q9) (cwI 0 C.1.2.2.2.2 (gN qw_116) rfl rfl rfl (C.1.2.2.2.2 _ (mc qw_72)) (C.1.2.2.2.2 _ (mc qw_208)) (C.1.2.2.2.2 _ (mc qw_115)) rfl (by decide +kernel) ⟨by show 3 + 1 ≤ _; omega, by show 8 + (2 + 11) + 81 ≤ _; omega⟩) (q_pre C hO hWc hS [.ref q9]) rfl rfl hl.1 rfl (lv_room (Nat.le_of_ble_eq_true rfl)) dX2_init_40 ⟨by omega, by omega⟩) hS (fun V H8 locs8 hW8 hS8 hV => ?_)
  obtain ⟨a9, ha9, rfl⟩ := hV
  subst ha9
  replace hW8 : Wq G (W0 ++ ((P f ++ S) ++ plq G a9)) H8 := Wq.cast (List.append_assoc _ _ _) hW8
  refine q_aast C hW8 hS8 1 7 (P f ++ S).length 6 (by rw [List.append_assoc]; exact it_at hP1) rfl (it_last (plq_0 G a9)) rfl (vp_in_nI hi (by decide)) dX2_init_43 (fun H locs hW hS => ?_)
  replace hW : Wq G (W0 ++ (P (va_up f i (some (a9 0))) ++ (S ++ plq G a9))) H := Wq.cast (by rw [clf (show i < 2 ^ 31 by omega)]; exact congrArg (W0 ++ ·) (it_set hPl (hP2 _))) hW
  refine lv_iinc (v := nI (i + 1)) (lv' := [(1, .int (nI (i + 1))), (0, .ref h0)]) hx hb dX2_init_44 hl (k := 0) rfl (nI_1 i) (by decide) rfl (fun ls hl => ?_)
  refine lv_goto (tgt := 25) hx hb dX2_init_47 (by decide) ?_
  exact kk a9 H locs ls hW hS hl

def hsq (G : GT) (b : Nat → Nat → Nat) : Nat → va_W
  | 0 => []
  | n + 1 => hsq G b n ++ plq G (b n)
def slq (b : Nat → Nat → Nat) : Nat → Option Nat := fun j => if j < 9 then some (b j 0) else none

theorem slq_of {c0 c1 c2 c3 c4 c5 c6 c7 c8 : Nat → Nat} : va_up (va_up (va_up (va_up (va_up (va_up (va_up (va_up (va_up (fun _ => none) 0 (some (c0 0))) 1 (some (c1 0))) 2 (some (c2 0))) 3 (some (c3 0))) 4 (some (c4 0))) 5 (some (c5 0))) 6 (some (c6 0))) 7 (some (c7 0))) 8 (some (c8 0)) = slq (fun i => [c0, c1, c2, c3, c4, c5, c6, c7, c8].getD i (fun _ => 0)) := by
  funext j
  match j with
  | 0 => rfl
  | 1 => rfl
  | 2 => rfl
  | 3 => rfl
  | 4 => rfl
  | 5 => rfl
  | 6 => rfl
  | 7 => rfl
  | 8 => rfl
  | k + 9 =>
    show _ = (if k + 9 < 9 then _ else none)
    rw [if_neg (by omega)]
    unfold va_up
    rw [if_neg (by omega), if_neg (by omega), if_neg (by omega), if_neg (by omega), if_neg (by omega), if_neg (by omega), if_neg (by omega), if_neg (by omega), if_neg (by omega)]

set_option maxHeartbeats 4000000 in
set_option maxRecDepth 100000 in
theorem cX2_init_q (l : Launch) (G : GT) (W0 : va_W) (h0 : Nat) : MetC l G 586 1737 yX2_init (wsG yX2_init cX2_init 2 none) (rmc 4 586 1737 102) [.ref h0] (W0 ++ [(h0, .inr (4, [.null, .int 0, .int 0]))]) (fun V => ∃ (s1 : Nat) (b : Nat → Nat → Nat), V = W0 ++ ([(h0, .inr (4, [.ref s1, .int 0, .int 0])), (s1, .inl (cy G 7, 9, .inr (.inr (.inr (.inr (slq b))))))] ++ hsq G b 9)) := by
  refine q_met (cc := cX2_init) (maxL := 2) (ret := none) (by decide) rfl (Nat.le_of_ble_eq_true rfl) ?_
  intro p e s m below meth c ls C hr hlk hnm hO hW hl
  have hx := C.1.1
  have hb := C.1.2.1
  have hS : va_S (Ab G) s.heap s.heap [] := va_S.rf
  have hA : ∀ q, s.heap.size ≤ q → Ab G q := fun q h => hW.ab (k := W0.length + 0) (ql_at rfl) h
  have hl : lv_has ls 2 [(0, .ref h0)] := hl
  refine lv_aload_n hx hb dX2_init_0 rfl (lv_at hl 0 rfl) ?_
  refine q_obj C hl.1 (mc qw_205) (mc qw_110) (mc qw_111) dX2_init_1 (by decide) (by decide) (by decide) ?_
  refine lv_aload_n hx hb dX2_init_4 rfl (lv_at hl 0 rfl) ?_
  refine lv_bipush (v := 9) hx hb dX2_init_5 (by decide) ?_
  refine q_newq (N' := 9) C hO hW hS hA (mc qw_206) (by decide) 7 rfl (by decide) rfl (by decide) (by decide) (by decide) dX2_init_7 (fun q1 H hW hS => ?_)
  have hW : Wq G (W0 ++ [(h0, .inr (4, [.null, .int 0, .int 0])), (q1, .inl (cy G 7, 9, .inr (.inr (.inr (.inr (fun _ => none))))))]) H := hW
  refine q_putF (ci := 4) (v := .ref q1) (ty := .array (.object "Foundry$Plant")) C hW hS (hwc hwX2) tyX2 tyX2_ok nmX2 0 rfl rfl 0 (by decide) (mc qw_209) (fun _ h9 => h9) rfl hnm rfl (by decide +kernel) rfl rfl (Nat.le_of_ble_eq_true rfl) dX2_init_10 (fun H locs hW hS => ?_)
  have hW : Wq G (W0 ++ [(h0, .inr (4, [.ref q1, .int 0, .int 0])), (q1, .inl (cy G 7, 9, .inr (.inr (.inr (.inr (fun _ => none))))))]) H := hW
  refine lv_aload_n hx hb dX2_init_13 rfl (lv_at hl 0 rfl) ?_
  refine lv_iconst (v := 0) hx hb dX2_init_14 (by decide) ?_
  refine q_put (ci := 4) (v := .int 0) (ty := .int) C hW hS (hwc hwX2) tyX2 tyX2_ok nmX2 0 rfl rfl 1 (by decide) (mc qw_210) (fun _ h9 => h9) rfl (by decide +kernel) rfl rfl (Nat.le_of_ble_eq_true rfl) dX2_init_15 (fun H locs hW hS => ?_)
  have hW : Wq G (W0 ++ [(h0, .inr (4, [.ref q1, .int 0, .int 0])), (q1, .inl (cy G 7, 9, .inr (.inr (.inr (.inr (fun _ => none))))))]) H := hW
  refine lv_aload_n hx hb dX2_init_18 rfl (lv_at hl 0 rfl) ?_
  refine lv_iconst (v := 0) hx hb dX2_init_19 (by decide) ?_
  refine q_put (ci := 4) (v := .int 0) (ty := .int) C hW hS (hwc hwX2) tyX2 tyX2_ok nmX2 0 rfl rfl 2 (by decide) (mc qw_211) (fun _ h9 => h9) rfl (by decide +kernel) rfl rfl (Nat.le_of_ble_eq_true rfl) dX2_init_20 (fun H locs hW hS => ?_)
  have hW : Wq G (W0 ++ [(h0, .inr (4, [.ref q1, .int 0, .int 0])), (q1, .inl (cy G 7, 9, .inr (.inr (.inr (.inr (fun _ => none))))))]) H := hW
  refine lv_iconst (v := 0) hx hb dX2_init_23 (by decide) ?_
  refine lv_istore_n (lv' := [(1, .int 0), (0, .ref h0)]) hx hb dX2_init_24 rfl hl (by decide) rfl (fun ls hl => ?_)
  refine it_h (cells := 1) (slots := 9) C hO hA (fun f9 => [(h0, .inr (4, [.ref q1, .int 0, .int 0])), (q1, .inl (cy G 7, 9, .inr (.inr (.inr (.inr (f9))))))]) ([]) (fun _ => none) q1 h0 _ rfl rfl rfl (fun _ => rfl) 0 (by decide) hW hS hl (by decide) (by decide) (by decide) (by decide) (fun a2 H locs ls hW hS hl => ?_)
  replace hW : Wq G (W0 ++ ([(h0, .inr (4, [.ref q1, .int 0, .int 0])), (q1, .inl (cy G 7, 9, .inr (.inr (.inr (.inr (va_up (fun _ => none) 0 (some (a2 0))))))))] ++ (([]) ++ plq G a2))) H := hW
  refine it_h (cells := 66) (slots := 201) C hO hA (fun f9 => [(h0, .inr (4, [.ref q1, .int 0, .int 0])), (q1, .inl (cy G 7, 9, .inr (.inr (.inr (.inr (f9))))))]) (([]) ++ plq G a2) (va_up (fun _ => none) 0 (some (a2 0))) q1 h0 _ rfl rfl rfl (fun _ => rfl) 1 (by decide) hW hS hl (by decide) (by decide) (by decide) (by decide) (fun a3 H locs ls hW hS hl => ?_)
  replace hW : Wq G (W0 ++ ([(h0, .inr (4, [.ref q1, .int 0, .int 0])), (q1, .inl (cy G 7, 9, .inr (.inr (.inr (.inr (va_up (va_up (fun _ => none) 0 (some (a2 0))) 1 (some (a3 0))))))))] ++ ((([]) ++ plq G a2) ++ plq G a3))) H := hW
  refine it_h (cells := 131) (slots := 393) C hO hA (fun f9 => [(h0, .inr (4, [.ref q1, .int 0, .int 0])), (q1, .inl (cy G 7, 9, .inr (.inr (.inr (.inr (f9))))))]) ((([]) ++ plq G a2) ++ plq G a3) (va_up (va_up (fun _ => none) 0 (some (a2 0))) 1 (some (a3 0))) q1 h0 _ rfl rfl rfl (fun _ => rfl) 2 (by decide) hW hS hl (by decide) (by decide) (by decide) (by decide) (fun a4 H locs ls hW hS hl => ?_)
  replace hW : Wq G (W0 ++ ([(h0, .inr (4, [.ref q1, .int 0, .int 0])), (q1, .inl (cy G 7, 9, .inr (.inr (.inr (.inr (va_up (va_up (va_up (fun _ => none) 0 (some (a2 0))) 1 (some (a3 0))) 2 (some (a4 0))))))))] ++ (((([]) ++ plq G a2) ++ plq G a3) ++ plq G a4))) H := hW
  refine it_h (cells := 196) (slots := 585) C hO hA (fun f9 => [(h0, .inr (4, [.ref q1, .int 0, .int 0])), (q1, .inl (cy G 7, 9, .inr (.inr (.inr (.inr (f9))))))]) (((([]) ++ plq G a2) ++ plq G a3) ++ plq G a4) (va_up (va_up (va_up (fun _ => none) 0 (some (a2 0))) 1 (some (a3 0))) 2 (some (a4 0))) q1 h0 _ rfl rfl rfl (fun _ => rfl) 3 (by decide) hW hS hl (by decide) (by decide) (by decide) (by decide) (fun a5 H locs ls hW hS hl => ?_)
  replace hW : Wq G (W0 ++ ([(h0, .inr (4, [.ref q1, .int 0, .int 0])), (q1, .inl (cy G 7, 9, .inr (.inr (.inr (.inr (va_up (va_up (va_up (va_up (fun _ => none) 0 (some (a2 0))) 1 (some (a3 0))) 2 (some (a4 0))) 3 (some (a5 0))))))))] ++ ((((([]) ++ plq G a2) ++ plq G a3) ++ plq G a4) ++ plq G a5))) H := hW
  refine it_h (cells := 261) (slots := 777) C hO hA (fun f9 => [(h0, .inr (4, [.ref q1, .int 0, .int 0])), (q1, .inl (cy G 7, 9, .inr (.inr (.inr (.inr (f9))))))]) ((((([]) ++ plq G a2) ++ plq G a3) ++ plq G a4) ++ plq G a5) (va_up (va_up (va_up (va_up (fun _ => none) 0 (some (a2 0))) 1 (some (a3 0))) 2 (some (a4 0))) 3 (some (a5 0))) q1 h0 _ rfl rfl rfl (fun _ => rfl) 4 (by decide) hW hS hl (by decide) (by decide) (by decide) (by decide) (fun a6 H locs ls hW hS hl => ?_)
  replace hW : Wq G (W0 ++ ([(h0, .inr (4, [.ref q1, .int 0, .int 0])), (q1, .inl (cy G 7, 9, .inr (.inr (.inr (.inr (va_up (va_up (va_up (va_up (va_up (fun _ => none) 0 (some (a2 0))) 1 (some (a3 0))) 2 (some (a4 0))) 3 (some (a5 0))) 4 (some (a6 0))))))))] ++ (((((([]) ++ plq G a2) ++ plq G a3) ++ plq G a4) ++ plq G a5) ++ plq G a6))) H := hW
  refine it_h (cells := 326) (slots := 969) C hO hA (fun f9 => [(h0, .inr (4, [.ref q1, .int 0, .int 0])), (q1, .inl (cy G 7, 9, .inr (.inr (.inr (.inr (f9))))))]) (((((([]) ++ plq G a2) ++ plq G a3) ++ plq G a4) ++ plq G a5) ++ plq G a6) (va_up (va_up (va_up (va_up (va_up (fun _ => none) 0 (some (a2 0))) 1 (some (a3 0))) 2 (some (a4 0))) 3 (some (a5 0))) 4 (some (a6 0))) q1 h0 _ rfl rfl rfl (fun _ => rfl) 5 (by decide) hW hS hl (by decide) (by decide) (by decide) (by decide) (fun a7 H locs ls hW hS hl => ?_)
  replace hW : Wq G (W0 ++ ([(h0, .inr (4, [.ref q1, .int 0, .int 0])), (q1, .inl (cy G 7, 9, .inr (.inr (.inr (.inr (va_up (va_up (va_up (va_up (va_up (va_up (fun _ => none) 0 (some (a2 0))) 1 (some (a3 0))) 2 (some (a4 0))) 3 (some (a5 0))) 4 (some (a6 0))) 5 (some (a7 0))))))))] ++ ((((((([]) ++ plq G a2) ++ plq G a3) ++ plq G a4) ++ plq G a5) ++ plq G a6) ++ plq G a7))) H := hW
  refine it_h (cells := 391) (slots := 1161) C hO hA (fun f9 => [(h0, .inr (4, [.ref q1, .int 0, .int 0])), (q1, .inl (cy G 7, 9, .inr (.inr (.inr (.inr (f9))))))]) ((((((([]) ++ plq G a2) ++ plq G a3) ++ plq G a4) ++ plq G a5) ++ plq G a6) ++ plq G a7) (va_up (va_up (va_up (va_up (va_up (va_up (fun _ => none) 0 (some (a2 0))) 1 (some (a3 0))) 2 (some (a4 0))) 3 (some (a5 0))) 4 (some (a6 0))) 5 (some (a7 0))) q1 h0 _ rfl rfl rfl (fun _ => rfl) 6 (by decide) hW hS hl (by decide) (by decide) (by decide) (by decide) (fun a8 H locs ls hW hS hl => ?_)
  replace hW : Wq G (W0 ++ ([(h0, .inr (4, [.ref q1, .int 0, .int 0])), (q1, .inl (cy G 7, 9, .inr (.inr (.inr (.inr (va_up (va_up (va_up (va_up (va_up (va_up (va_up (fun _ => none) 0 (some (a2 0))) 1 (some (a3 0))) 2 (some (a4 0))) 3 (some (a5 0))) 4 (some (a6 0))) 5 (some (a7 0))) 6 (some (a8 0))))))))] ++ (((((((([]) ++ plq G a2) ++ plq G a3) ++ plq G a4) ++ plq G a5) ++ plq G a6) ++ plq G a7) ++ plq G a8))) H := hW
  refine it_h (cells := 456) (slots := 1353) C hO hA (fun f9 => [(h0, .inr (4, [.ref q1, .int 0, .int 0])), (q1, .inl (cy G 7, 9, .inr (.inr (.inr (.inr (f9))))))]) (((((((([]) ++ plq G a2) ++ plq G a3) ++ plq G a4) ++ plq G a5) ++ plq G a6) ++ plq G a7) ++ plq G a8) (va_up (va_up (va_up (va_up (va_up (va_up (va_up (fun _ => none) 0 (some (a2 0))) 1 (some (a3 0))) 2 (some (a4 0))) 3 (some (a5 0))) 4 (some (a6 0))) 5 (some (a7 0))) 6 (some (a8 0))) q1 h0 _ rfl rfl rfl (fun _ => rfl) 7 (by decide) hW hS hl (by decide) (by decide) (by decide) (by decide) (fun a9 H locs ls hW hS hl => ?_)
  replace hW : Wq G (W0 ++ ([(h0, .inr (4, [.ref q1, .int 0, .int 0])), (q1, .inl (cy G 7, 9, .inr (.inr (.inr (.inr (va_up (va_up (va_up (va_up (va_up (va_up (va_up (va_up (fun _ => none) 0 (some (a2 0))) 1 (some (a3 0))) 2 (some (a4 0))) 3 (some (a5 0))) 4 (some (a6 0))) 5 (some (a7 0))) 6 (some (a8 0))) 7 (some (a9 0))))))))] ++ ((((((((([]) ++ plq G a2) ++ plq G a3) ++ plq G a4) ++ plq G a5) ++ plq G a6) ++ plq G a7) ++ plq G a8) ++ plq G a9))) H := hW
  refine it_h (cells := 521) (slots := 1545) C hO hA (fun f9 => [(h0, .inr (4, [.ref q1, .int 0, .int 0])), (q1, .inl (cy G 7, 9, .inr (.inr (.inr (.inr (f9))))))]) ((((((((([]) ++ plq G a2) ++ plq G a3) ++ plq G a4) ++ plq G a5) ++ plq G a6) ++ plq G a7) ++ plq G a8) ++ plq G a9) (va_up (va_up (va_up (va_up (va_up (va_up (va_up (va_up (fun _ => none) 0 (some (a2 0))) 1 (some (a3 0))) 2 (some (a4 0))) 3 (some (a5 0))) 4 (some (a6 0))) 5 (some (a7 0))) 6 (some (a8 0))) 7 (some (a9 0))) q1 h0 _ rfl rfl rfl (fun _ => rfl) 8 (by decide) hW hS hl (by decide) (by decide) (by decide) (by decide) (fun a10 H locs ls hW hS hl => ?_)
  replace hW : Wq G (W0 ++ ([(h0, .inr (4, [.ref q1, .int 0, .int 0])), (q1, .inl (cy G 7, 9, .inr (.inr (.inr (.inr (va_up (va_up (va_up (va_up (va_up (va_up (va_up (va_up (va_up (fun _ => none) 0 (some (a2 0))) 1 (some (a3 0))) 2 (some (a4 0))) 3 (some (a5 0))) 4 (some (a6 0))) 5 (some (a7 0))) 6 (some (a8 0))) 7 (some (a9 0))) 8 (some (a10 0))))))))] ++ (((((((((([]) ++ plq G a2) ++ plq G a3) ++ plq G a4) ++ plq G a5) ++ plq G a6) ++ plq G a7) ++ plq G a8) ++ plq G a9) ++ plq G a10))) H := hW
  replace hl : lv_has ls 2 [(1, .int 9), (0, .ref h0)] := hl
  refine lv_iload_n hx hb dX2_init_25 rfl (lv_at hl 0 rfl) ?_
  refine lv_bipush (v := 9) hx hb dX2_init_26 (by decide) ?_
  refine lv_icmp_ge (tgt := 50) hx hb dX2_init_28 (by decide) (fun _ => ?_) (fun h9 => absurd h9 (by decide))
  refine W.widen (k := 586) (n := 1737) (by decide) (by decide) ?_
  exact q_vret C hr hlk hW hS dX2_init_50 ⟨q1, (fun i => [a2, a3, a4, a5, a6, a7, a8, a9, a10].getD i (fun _ => 0)), by rw [show (va_up (va_up (va_up (va_up (va_up (va_up (va_up (va_up (va_up (fun _ => none) 0 (some (a2 0))) 1 (some (a3 0))) 2 (some (a4 0))) 3 (some (a5 0))) 4 (some (a6 0))) 5 (some (a7 0))) 6 (some (a8 0))) 7 (some (a9 0))) 8 (some (a10 0))) = slq (fun i => [a2, a3, a4, a5, a6, a7, a8, a9, a10].getD i (fun _ => 0)) from slq_of]; rfl⟩

set_option maxHeartbeats 4000000 in
set_option maxRecDepth 100000 in
theorem cX5_init_q (l : Launch) (G : GT) (W0 : va_W) (h0 : Nat) : MetC l G 63 360 yX5_init (wsG yX5_init cX5_init 1 none) (rmc 1 63 360 40) [.ref h0] (W0 ++ [(h0, .inr (7, [.null, .int 0, .int 0, .null, .null, .int 0]))]) (fun V => ∃ (t1 c1 z1 : Nat), V = W0 ++ ([(h0, .inr (7, [.ref t1, .int 0, .int 0, .ref c1, .ref z1, .int 0])), (t1, .inl (cy G 1, 60, .inl (fun _ => 0))), (c1, .inl (cy G 8, 60, .inr (.inr (.inr (.inr (fun _ => none)))))), (z1, argq G z1)] ++ rowq G z1)) := by
  refine q_met (cc := cX5_init) (maxL := 1) (ret := none) (by decide) rfl (Nat.le_of_ble_eq_true rfl) ?_
  intro p e s m below meth c ls C hr hlk hnm hO hW hl
  have hx := C.1.1
  have hb := C.1.2.1
  have hS : va_S (Ab G) s.heap s.heap [] := va_S.rf
  have hA : ∀ q, s.heap.size ≤ q → Ab G q := fun q h => hW.ab (k := W0.length + 0) (ql_at rfl) h
  have hl : lv_has ls 1 [(0, .ref h0)] := hl
  refine lv_aload_n hx hb dX5_init_0 rfl (lv_at hl 0 rfl) ?_
  refine q_obj C hl.1 (mc qw_225) (mc qw_110) (mc qw_111) dX5_init_1 (by decide) (by decide) (by decide) ?_
  refine lv_aload_n hx hb dX5_init_4 rfl (lv_at hl 0 rfl) ?_
  refine lv_bipush (v := 60) hx hb dX5_init_5 (by decide) ?_
  refine q_newa (atype := .char) (a0 := (60, .inl (fun _ => 0))) (N' := 60) C hW hS hA rfl (mc qw_253) 1 rfl (fun cA => rfl) (by decide) rfl (by decide) (by decide) (by decide) dX5_init_7 (fun q1 H hW hS => ?_)
  have hW : Wq G (W0 ++ [(h0, .inr (7, [.null, .int 0, .int 0, .null, .null, .int 0])), (q1, .inl (cy G 1, 60, .inl (fun _ => 0)))]) H := hW
  refine q_putF (ci := 7) (v := .ref q1) (ty := .array .char) C hW hS (hwc hwX5) tyX5 tyX5_ok nmX5 0 rfl rfl 0 (by decide) (mc qw_230) (fun _ h9 => h9) rfl hnm rfl (by decide +kernel) rfl rfl (Nat.le_of_ble_eq_true rfl) dX5_init_9 (fun H locs hW hS => ?_)
  have hW : Wq G (W0 ++ [(h0, .inr (7, [.ref q1, .int 0, .int 0, .null, .null, .int 0])), (q1, .inl (cy G 1, 60, .inl (fun _ => 0)))]) H := hW
  refine lv_aload_n hx hb dX5_init_12 rfl (lv_at hl 0 rfl) ?_
  refine lv_iconst (v := 0) hx hb dX5_init_13 (by decide) ?_
  refine q_put (ci := 7) (v := .int 0) (ty := .int) C hW hS (hwc hwX5) tyX5 tyX5_ok nmX5 0 rfl rfl 1 (by decide) (mc qw_231) (fun _ h9 => h9) rfl (by decide +kernel) rfl rfl (Nat.le_of_ble_eq_true rfl) dX5_init_14 (fun H locs hW hS => ?_)
  have hW : Wq G (W0 ++ [(h0, .inr (7, [.ref q1, .int 0, .int 0, .null, .null, .int 0])), (q1, .inl (cy G 1, 60, .inl (fun _ => 0)))]) H := hW
  refine lv_aload_n hx hb dX5_init_17 rfl (lv_at hl 0 rfl) ?_
  refine lv_iconst (v := 0) hx hb dX5_init_18 (by decide) ?_
  refine q_put (ci := 7) (v := .int 0) (ty := .int) C hW hS (hwc hwX5) tyX5 tyX5_ok nmX5 0 rfl rfl 2 (by decide) (mc qw_233) (fun _ h9 => h9) rfl (by decide +kernel) rfl rfl (Nat.le_of_ble_eq_true rfl) dX5_init_19 (fun H locs hW hS => ?_)
  have hW : Wq G (W0 ++ [(h0, .inr (7, [.ref q1, .int 0, .int 0, .null, .null, .int 0])), (q1, .inl (cy G 1, 60, .inl (fun _ => 0)))]) H := hW
  refine lv_aload_n hx hb dX5_init_22 rfl (lv_at hl 0 rfl) ?_
  refine lv_bipush (v := 60) hx hb dX5_init_23 (by decide) ?_
  refine q_newq (N' := 60) C hO hW hS hA (mc qw_226) (by decide) 8 rfl (by decide) rfl (by decide) (by decide) (by decide) dX5_init_25 (fun q2 H hW hS => ?_)
  have hW : Wq G (W0 ++ [(h0, .inr (7, [.ref q1, .int 0, .int 0, .null, .null, .int 0])), (q1, .inl (cy G 1, 60, .inl (fun _ => 0))), (q2, .inl (cy G 8, 60, .inr (.inr (.inr (.inr (fun _ => none))))))]) H := hW
  refine q_putF (ci := 7) (v := .ref q2) (ty := .array (.object "Foundry$Command")) C hW hS (hwc hwX5) tyX5 tyX5_ok nmX5 0 rfl rfl 3 (by decide) (mc qw_234) (fun _ h9 => h9) rfl hnm rfl (by decide +kernel) rfl rfl (Nat.le_of_ble_eq_true rfl) dX5_init_28 (fun H locs hW hS => ?_)
  have hW : Wq G (W0 ++ [(h0, .inr (7, [.ref q1, .int 0, .int 0, .ref q2, .null, .int 0])), (q1, .inl (cy G 1, 60, .inl (fun _ => 0))), (q2, .inl (cy G 8, 60, .inr (.inr (.inr (.inr (fun _ => none))))))]) H := hW
  refine lv_aload_n hx hb dX5_init_31 rfl (lv_at hl 0 rfl) ?_
  refine lv_bipush (v := 60) hx hb dX5_init_32 (by decide) ?_
  refine lv_iconst (v := 3) hx hb dX5_init_34 (by decide) ?_
  refine q_multi C hO hW hS hA (mc qw_228) (mc qw_133) (by decide) (by decide) dX5_init_35 (fun q3 H hW hS => ?_)
  have hW : Wq G (W0 ++ ([(h0, .inr (7, [.ref q1, .int 0, .int 0, .ref q2, .null, .int 0])), (q1, .inl (cy G 1, 60, .inl (fun _ => 0))), (q2, .inl (cy G 8, 60, .inr (.inr (.inr (.inr (fun _ => none)))))), (q3, argq G q3)] ++ rowq G q3)) H := hW
  refine q_putF (ci := 7) (v := .ref q3) (ty := .array (.array .int)) C hW hS (hwc hwX5) tyX5 tyX5_ok nmX5 0 rfl rfl 4 (by decide) (mc qw_236) (fun _ h9 => h9) rfl hnm rfl (by decide +kernel) rfl rfl (Nat.le_of_ble_eq_true rfl) dX5_init_39 (fun H locs hW hS => ?_)
  have hW : Wq G (W0 ++ ([(h0, .inr (7, [.ref q1, .int 0, .int 0, .ref q2, .ref q3, .int 0])), (q1, .inl (cy G 1, 60, .inl (fun _ => 0))), (q2, .inl (cy G 8, 60, .inr (.inr (.inr (.inr (fun _ => none)))))), (q3, argq G q3)] ++ rowq G q3)) H := hW
  refine lv_aload_n hx hb dX5_init_42 rfl (lv_at hl 0 rfl) ?_
  refine lv_iconst (v := 0) hx hb dX5_init_43 (by decide) ?_
  refine q_put (ci := 7) (v := .int 0) (ty := .int) C hW hS (hwc hwX5) tyX5 tyX5_ok nmX5 0 rfl rfl 5 (by decide) (mc qw_238) (fun _ h9 => h9) rfl (by decide +kernel) rfl rfl (Nat.le_of_ble_eq_true rfl) dX5_init_44 (fun H locs hW hS => ?_)
  have hW : Wq G (W0 ++ ([(h0, .inr (7, [.ref q1, .int 0, .int 0, .ref q2, .ref q3, .int 0])), (q1, .inl (cy G 1, 60, .inl (fun _ => 0))), (q2, .inl (cy G 8, 60, .inr (.inr (.inr (.inr (fun _ => none)))))), (q3, argq G q3)] ++ rowq G q3)) H := hW
  refine W.widen (k := 63) (n := 360) (by decide) (by decide) ?_
  exact q_vret C hr hlk hW hS dX5_init_47 ⟨_, _, _, rfl⟩
