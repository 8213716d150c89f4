/-! THE CLAIM OUT OF ONE WALK OF THE LAW'S BODY. Your part is whole_start (and what it stands on); all else here is the same for every law, but numbers. -/
def R_law : String := "FoundryLaw"
def lw_P (b : Addr) (xs : List Int32) (args : Array Value) (s : State) : Prop := args = #[.ref b] ∧ s.IntsAt b xs ∧ xs.length ≤ 2048 ∧ (Jvm.Cond.and given_1 narrow_1).before args s = true
/-- what a walk over the start with the record d0 says of its end, said of the start itself -/
theorem lw_closed {s t : State} {o : Outcome} {d0 : Drawn} {L : List Loc} {k n : Nat} (hd0 : s.drawn.sameBut d0 lw_cs) (hv : ∃ v, o = .returned v) (hW : (s.setDrawn d0).WarmedH t.vm) (hs : (s.setDrawn d0).sameButNew ({ t with vm := s.vm } : State) L k n) : State.butDraws s t lw_cs (fun t1 => Framed s o t1 L k n) := by
  have h2 : t.drawn = d0 := congrArg State.drawn hs.1
  refine ⟨⟨hv, hW, State.sameButNew.setDrawn hs s.drawn⟩, ?_, by decide⟩
  rw [h2]
  exact hd0
def lw_Q (_ : Array Value) (s : State) (o : Outcome) (t : State) : Prop := o = .returned (some (.int 1)) ∧ State.butDraws s t lw_cs (fun t1 => Framed s o t1 [] 714529 6893124)
def lw_Z (below : List Frame) (a : Array Value) (s : State) : State → Prop := fun t => ∃ o, t.status = .running ∧ Ended t below o ∧ lw_Q a s o t
/-- the law's own end, with 1 on the stack, nothing written that was there before, its room as the claim has it; d0: the record of draws at this point (at the entry s.drawn: begin with 'refine W.base ?_' and 'have hd0 := Drawn.sameBut.refl s.drawn lw_cs') -/
theorem lw_ret {p : Program} {l : Launch} {e : Env} {s : State} {m : MethodId} {below : List Frame} {meth : Method} {c : Code} {b : Nat} {d0 : Drawn} (hd0 : s.drawn.sameBut d0 lw_cs) (hx : p.tables.exec = Jvm.exec) (hb : c.code = code) (hr : meth.sig.returnType = ret) (hlocks : meth.locks = false) {pc : Nat} {H : Heap} {ls : Array Slot} (hdg : decode code pc = .ok (.ireturn, 1)) : W p l e room_1 (s.setDrawn d0) m #[Value.ref b] below meth c H [] 714529 6893124 (lw_Z below #[Value.ref b] s) (F0 m pc ls [.int 1]) := by
  intro T hT X
  obtain ⟨fs, hret, hrun, hended, hW, hframe⟩ := X.leave (v := some (.int 1)) (hlocks := hlocks) (fun h => by rw [hr] at h; cases h)
  have hmeth' : T.vm.method? m = some meth := X.method'
  refine ⟨T.setFrames fs, ?_, .returned (some (.int 1)), hrun, hended, rfl, lw_closed hd0 ⟨_, rfl⟩ hW hframe⟩
  jvm_step X.here [X.here.top, hx, hb, hdg, hmeth', hr, ret, narrow_b1]
  (try refine ⟨rfl, ?_⟩); (try refine ⟨rfl, ?_⟩)
  first | (intro acts; rw [hret _ acts rfl rfl rfl]) | rw [hret _ _ rfl rfl rfl]
  exact Steps.refl _
/-- what holds at the law's entry: the machine, the code, the tables' words (any of lw_tbl by 'hts w (by decide +kernel)'), the script of L ints xs at the cell b, what the Statement gives of the start (any of its parts by flat_of_before) -/
def lw_At (p : Program) (s : State) (m : MethodId) (meth : Method) (c : Code) (b L : Nat) (xs : Nat → Int32) : Prop :=
  p.tables.exec = Jvm.exec ∧ c.code = code ∧ meth.sig.returnType = ret ∧ c.maxLocals = 10 ∧ s.vm.findClass R_law = some m.cls ∧ (∀ w ∈ lw_tbl, w.before #[Value.ref b] s = true) ∧ va_X b L xs s s.heap ∧ b < s.heap.size ∧ meth.locks = false ∧ (Jvm.Cond.and given_1 narrow_1).before #[Value.ref b] s = true
theorem gN0 {y : MethodName} {cy : ByteArray} {ny : Nat} {ry : Option FieldType} (h : Cond.code y cy ny ry ∈ lw_all) : GoodIn lw_all (wsG y cy ny ry) := by
  intro w hw
  rcases List.mem_cons.mp hw with rfl | h2
  · exact ⟨h, lw_good h⟩
  · exact ⟨h2, lw_good h2⟩
theorem Wq_ad {D : va_G} {cY a a' : Nat → Nat} {N h0 hh s1 sc t1 c1 z1 sb b1 q0 qL qD : Nat} {a1 a2 am : Nat → Nat} {bb : Nat → Nat → Nat} {H : Heap} (h : Wq (D, (cY, (a, N))) (Vq (D, (cY, (a, N))) h0 hh s1 sc t1 c1 z1 sb b1 q0 qL qD a1 a2 am bb) H) : Wq (D, (cY, (a', N))) (Vq (D, (cY, (a', N))) h0 hh s1 sc t1 c1 z1 sb b1 q0 qL qD a1 a2 am bb) H := h
theorem v_104 : Cond.classLink "FoundryLaw" 8 "Foundry" ∈ lw_all := lw_mem 104 (by decide +kernel) (by decide +kernel)
theorem v_105 : Cond.instantiable "Foundry" 8 ∈ lw_all := lw_mem 105 (by decide +kernel) (by decide +kernel)
theorem v_106 : Cond.methodLink "FoundryLaw" 163 ⟨"Foundry", "<init>", "()V"⟩ ∈ lw_all := lw_mem 106 (by decide +kernel) (by decide +kernel)
theorem v_107 : Cond.instanceMethod ⟨"Foundry", "<init>", "()V"⟩ ∈ lw_all := lw_mem 107 (by decide +kernel) (by decide +kernel)
theorem v_108 : Cond.code ⟨"Foundry", "<init>", "()V"⟩ cX7_init 1 (none : Option FieldType) ∈ lw_all := lw_mem 108 (by decide +kernel) (by decide +kernel)
theorem v_1464 : Cond.classLink "FoundryLaw" 164 "FoundryModel" ∈ lw_all := lw_mem 1464 (by decide +kernel) (by decide +kernel)
theorem v_1465 : Cond.instantiable "FoundryModel" 22 ∈ lw_all := lw_mem 1465 (by decide +kernel) (by decide +kernel)
theorem v_1466 : Cond.methodLink "FoundryLaw" 166 ⟨"FoundryModel", "<init>", "()V"⟩ ∈ lw_all := lw_mem 1466 (by decide +kernel) (by decide +kernel)
theorem v_1467 : Cond.instanceMethod ⟨"FoundryModel", "<init>", "()V"⟩ ∈ lw_all := lw_mem 1467 (by decide +kernel) (by decide +kernel)
theorem v_1468 : Cond.code ⟨"FoundryModel", "<init>", "()V"⟩ cX8_init 2 (none : Option FieldType) ∈ lw_all := lw_mem 1468 (by decide +kernel) (by decide +kernel)
theorem v_71 : Cond.initialized "Foundry" ∈ lw_all := lw_mem 71 (by decide +kernel) (by decide +kernel)
theorem v_81 : Cond.initialized "FoundryModel" ∈ lw_all := lw_mem 81 (by decide +kernel) (by decide +kernel)
theorem v_1943 : Cond.arrayClass .long ∈ lw_all := lw_mem 1943 (by decide +kernel) (by decide +kernel)
theorem v_1944 : Cond.arrayClass .double ∈ lw_all := lw_mem 1944 (by decide +kernel) (by decide +kernel)
theorem whole_start {p : Program} {e : Env} {s : State} {m : MethodId} {below : List Frame} {meth : Method} {c : Code} (l : Launch) (hflags : l.flags = flags0) {b L : Nat} {xs : Nat → Int32} (hL : L ≤ 2048) (C0 : lw_At p s m meth c b L xs) : W p l e room_1 s m #[Value.ref b] below meth c s.heap [] 0 0 (lw_Z below #[Value.ref b] s) (entryFrame m ([Value.ref b] : List Value).toArray 10) := by
  obtain ⟨hx, hb, hr, hml, hown, hts, hX, hbl, hlk, hgv⟩ := C0
  have hst : l.stackTraces = false := by
    unfold Launch.stackTraces
    rw [hflags]
    decide +kernel
  obtain ⟨D, cY, hE⟩ := env_0 hts hgv
  have hO : EnvA s := e_A hts
  have ha : ∀ w ∈ lw_all, w.before #[Value.ref b] s = true := fun w hw => hts w (List.mem_filter.mp hw).1
  have CC : ∀ a : Nat → Nat, Cx p m c cL_law 10 s #[Value.ref b] lw_all "FoundryLaw" (D, (cY, (a, s.heap.size))) := fun a => ⟨⟨hx, hb, hml, hown, ha⟩, hE a⟩
  have hA0 : ∀ q : Nat, s.heap.size ≤ q → s.heap.size ≤ q := fun _ h => h
  obtain ⟨G, hG⟩ : ∃ G : GT, G = (D, (cY, ((fun _ => 0), s.heap.size))) := ⟨_, rfl⟩
  have C : Cx p m c cL_law 10 s #[Value.ref b] lw_all "FoundryLaw" G := by rw [hG]; exact CC _
  have hA : ∀ q, s.heap.size ≤ q → Ab G q := by rw [hG]; exact hA0
  have hS : va_S (Ab G) s.heap s.heap [] := va_S.rf
  have hW : Wq G ([] ++ []) s.heap := ⟨fun k q h => (by simp at h), fun i j p q h => (by simp at h), fun k q h => (by simp at h)⟩
  rw [lg_entry_eq]
  have hl : lv_has ((lg_sl [Value.ref b] ++ List.replicate (10 - (lg_sl [Value.ref b]).length) Slot.unset).toArray) 10 [(0, .ref b)] := lv_entry [.ref b] (Nat.le_of_ble_eq_true rfl)
  refine q_new (W0 := []) (T := []) (ci := 9) (fs := [.null, .null, .null, .int 0, .null, .int 0, .int 0, .null]) C hW hS hA hwX7 tyX7 tyX7_ok v_104 v_105 v_71 rfl (fun j hj => by rcases (show j = 0 ∨ j = 1 ∨ j = 2 ∨ j = 3 ∨ j = 4 ∨ j = 5 ∨ j = 6 ∨ j = 7 by omega) with rfl | rfl | rfl | rfl | rfl | rfl | rfl | rfl <;> rfl) (by decide) (by decide) dL_law_0 (fun h0 H hW hS => ?_)
  refine lv_dup hx hb dL_law_3 rfl ?_
  refine q_callv (va_runI (As := []) (rest := [.ref h0]) C.1 (cX7_init_q l G [] h0) (cwI 0 C.1.2.2.2.2 (gN0 v_108) rfl rfl rfl (ha _ v_71) (ha _ v_106) (ha _ v_107) rfl (by decide +kernel) ⟨Nat.le_of_ble_eq_true rfl, Nat.le_of_ble_eq_true rfl⟩) (q_pre C hO hW hS [.ref h0]) rfl rfl hl.1 rfl (lv_room (Nat.le_of_ble_eq_true rfl)) dL_law_4 ⟨by decide, by decide⟩) hS (fun V H locs hW hS hV => ?_)
  obtain ⟨a1, hh, s1, bb, a2, sc, t1, c1, z1, sb, b1, rfl⟩ := hV
  refine lv_astore_n (lv' := [(1, .ref h0), (0, .ref b)]) hx hb dL_law_7 rfl hl (by decide) rfl (fun ls1 hl1 => ?_)
  refine q_new (W0 := []) (T := foq G h0 a1 hh s1 bb a2 sc t1 c1 z1 sb b1) (ci := 10) (fs := [.int 0, .int 0, .int 0, .int 0, .int 0, .null, .null, .null, .null, .null, .null, .null, .null, .null, .null, .null, .int 0, .int 0, .int 0, .int 0, .int 0, .int 0]) C hW hS hA hwX8 tyX8 tyX8_ok v_1464 v_1465 v_81 rfl (fun j hj => by rcases (show j = 0 ∨ j = 1 ∨ j = 2 ∨ j = 3 ∨ j = 4 ∨ j = 5 ∨ j = 6 ∨ j = 7 ∨ j = 8 ∨ j = 9 ∨ j = 10 ∨ j = 11 ∨ j = 12 ∨ j = 13 ∨ j = 14 ∨ j = 15 ∨ j = 16 ∨ j = 17 ∨ j = 18 ∨ j = 19 ∨ j = 20 ∨ j = 21 by omega) with rfl | rfl | rfl | rfl | rfl | rfl | rfl | rfl | rfl | rfl | rfl | rfl | rfl | rfl | rfl | rfl | rfl | rfl | rfl | rfl | rfl | rfl <;> rfl) (by decide) (by decide) dL_law_8 (fun q0 H hW hS => ?_)
  refine lv_dup hx hb dL_law_11 rfl ?_
  refine q_callv (va_runI (As := []) (rest := [.ref q0]) C.1 (cX8_init_q l G (foq G h0 a1 hh s1 bb a2 sc t1 c1 z1 sb b1) q0) (cwI 0 C.1.2.2.2.2 (gN0 v_1468) rfl rfl rfl (ha _ v_81) (ha _ v_1466) (ha _ v_1467) rfl (by decide +kernel) ⟨Nat.le_of_ble_eq_true rfl, Nat.le_of_ble_eq_true rfl⟩) (q_pre C hO hW hS [.ref q0]) rfl rfl hl1.1 rfl (lv_room (Nat.le_of_ble_eq_true rfl)) dL_law_12 ⟨by decide, by decide⟩) hS (fun V H locs hW hS hV => ?_)
  obtain ⟨am, rfl⟩ := hV
  refine lv_astore_n (lv' := [(2, .ref q0), (1, .ref h0), (0, .ref b)]) hx hb dL_law_15 rfl hl1 (by decide) rfl (fun ls2 hl2 => ?_)
  refine lv_iconst (v := 1) hx hb dL_law_16 (by decide) ?_
  refine q_newa (W0 := []) (T := foq G h0 a1 hh s1 bb a2 sc t1 c1 z1 sb b1 ++ mdq G q0 am) (atype := .long) (a0 := (1, .inr (.inl (fun _ => 0)))) (N' := 1) C hW hS hA rfl v_1943 3 rfl (fun cA => rfl) (by decide) rfl (by decide) (by decide) (by decide) dL_law_17 (fun qL H hW hS => ?_)
  refine lv_astore_n (lv' := [(3, .ref qL), (2, .ref q0), (1, .ref h0), (0, .ref b)]) hx hb dL_law_19 rfl hl2 (by decide) rfl (fun ls3 hl3 => ?_)
  refine lv_iconst (v := 1) hx hb dL_law_20 (by decide) ?_
  refine q_newa (W0 := []) (T := (foq G h0 a1 hh s1 bb a2 sc t1 c1 z1 sb b1 ++ mdq G q0 am) ++ [(qL, .inl (cy G 3, 1, .inr (.inl (fun _ => 0))))]) (atype := .double) (a0 := (1, .inr (.inr (.inr (.inl (fun _ => 0)))))) (N' := 1) C hW hS hA rfl v_1944 4 rfl (fun cA => rfl) (by decide) rfl (by decide) (by decide) (by decide) dL_law_21 (fun qD H hW hS => ?_)
  refine lv_astore (lv' := [(4, .ref qD), (3, .ref qL), (2, .ref q0), (1, .ref h0), (0, .ref b)]) hx hb dL_law_23 hl3 (by decide) rfl (fun ls4 hl4 => ?_)
  refine lv_iconst (v := nI (4 * 0)) hx hb dL_law_25 (by decide) ?_
  refine lv_istore (lv' := [(5, .int (nI (4 * 0))), (4, .ref qD), (3, .ref qL), (2, .ref q0), (1, .ref h0), (0, .ref b)]) hx hb dL_law_26 hl4 (by decide) rfl (fun ls5 hl5 => ?_)
  have hV : Wq G (Vq G h0 hh s1 sc t1 c1 z1 sb b1 q0 qL qD a1 a2 am bb) H := hW
  clear hW
  subst hG
  have hW : Wd (D, (cY, (adq h0 hh s1 sc t1 c1 z1 sb b1 q0 qL qD a1 a2 am bb, s.heap.size))) (X0 b1) H := Wd.of_list rfl (Wq_ad hV)
  have e0 : adq h0 hh s1 sc t1 c1 z1 sb b1 q0 qL qD a1 a2 am bb 715 = h0 := rfl
  have e1 : adq h0 hh s1 sc t1 c1 z1 sb b1 q0 qL qD a1 a2 am bb 723 = q0 := rfl
  have e2 : adq h0 hh s1 sc t1 c1 z1 sb b1 q0 qL qD a1 a2 am bb 735 = qL := rfl
  have e3 : adq h0 hh s1 sc t1 c1 z1 sb b1 q0 qL qD a1 a2 am bb 736 = qD := rfl
  refine lw_loop (G := (D, (cY, (adq h0 hh s1 sc t1 c1 z1 sb b1 q0 qL qD a1 a2 am bb, s.heap.size)))) hst (CC _) hX hbl (Nat.not_le.mpr hbl) hL (fun H1 locs1 ls1 hS1 => ?_) 512 0 (X0 b1) H locs ls5 _ _ (by omega) (by decide) (by decide) (by decide) hS hW (linv_0 b1) (lv_perm hl5 ?_)
  · refine lv_iconst (v := 1) hx hb dL_law_2995 (by decide) ?_
    refine va_forget (fun q hq => hS1.2.2 q hq) ?_
    refine W.base ?_
    exact lw_ret (Drawn.sameBut.refl s.drawn lw_cs) hx hb hr hlk dL_law_2996
  · intro q hq
    simp only [List.mem_cons, List.not_mem_nil, or_false] at hq
    rcases hq with rfl | rfl | rfl | rfl | rfl | rfl
    · simp
    · show (1, Value.ref (adq h0 hh s1 sc t1 c1 z1 sb b1 q0 qL qD a1 a2 am bb 715)) ∈ _
      rw [e0]
      simp
    · show (2, Value.ref (adq h0 hh s1 sc t1 c1 z1 sb b1 q0 qL qD a1 a2 am bb 723)) ∈ _
      rw [e1]
      simp
    · show (3, Value.ref (adq h0 hh s1 sc t1 c1 z1 sb b1 q0 qL qD a1 a2 am bb 735)) ∈ _
      rw [e2]
      simp
    · show (4, Value.ref (adq h0 hh s1 sc t1 c1 z1 sb b1 q0 qL qD a1 a2 am bb 736)) ∈ _
      rw [e3]
      simp
    · simp
-- ===== YOUR PART ENDS =====
set_option maxHeartbeats 4000000 in
theorem lw_walk (l : Launch) (hflags : l.flags = flags0) (b : Addr) (xs : List Int32) : MetFree l x (headSpec (Jvm.Cond.code x code maxLocals ret :: tables_1) room_1) (lw_P b xs) (fun _ _ _ _ _ => True) lw_Q := by
  refine MetFree.of_bodyS (code := code) (maxLocals := maxLocals) (ret := ret) (by decide) ?_ ?_
  · intro args s m h hn
    obtain ⟨meth, c, h1, h2, h3, h4, h5, h6, -, -⟩ := Cond.code_spec hn (atoms_spec (ws := Jvm.Cond.code x code maxLocals ret :: tables_1) h _ List.mem_cons_self)
    exact ⟨meth, c, h1, h2, h3, h4, h5, h6⟩
  · intro p e s m args below meth c s₁ B hml0 hP _
    obtain ⟨rfl, hx, hbd, hgv⟩ := hP
    obtain ⟨scr, harrAt, hlist, hof, hsmall⟩ := hx
    obtain ⟨hcb, hkn, -, -⟩ := State.arrayAt?_spec harrAt
    have hown : s.vm.findClass R_law = some m.cls := findClass_of_methodNamed B.named
    have hts0 : ∀ c ∈ (Jvm.Cond.code x code maxLocals ret :: tables_1), c.before #[Value.ref b] s = true := atoms_spec (ws := Jvm.Cond.code x code maxLocals ret :: tables_1) B.pre
    have hts : ∀ w ∈ lw_tbl, w.before #[Value.ref b] s = true := k2_hts_sels lw_privs (fun w hw => hts0 w (List.mem_cons_of_mem _ hw)) lw_privs_ok
    have hml : c.maxLocals = 10 := B.maxLocals_eq (hts0 _ List.mem_cons_self)
    have X₀ : Stand p l e room_1 s m #[Value.ref b] below meth c s₁ [] 0 0 := Stand.of_body B
    have hh0 : s₁.heap = s.heap := by rw [B.state]; rfl
    have hsz : scr.slots.size = xs.length := by rw [← Array.length_toList, hlist, List.length_map]
    have hval : ∀ j : Nat, j < xs.length → scr.slots[j]? = some (.int (xs.getD j 0)) := fun j hj => by
      rw [← Array.getElem?_toList, hlist]
      simp [hj]
    have hbl : b < s.heap.size := (Array.getElem?_eq_some_iff.mp hcb).1
    have hX : va_X b xs.length (fun j => xs.getD j 0) s s.heap := ⟨scr, hcb, hof, hkn, hsz, hval⟩
    have K : W p l e room_1 s m #[Value.ref b] below meth c s₁.heap [] 0 0 (lw_Z below #[Value.ref b] s) (entryFrame m ([Value.ref b] : List Value).toArray 10) := by
      rw [hh0]
      exact whole_start l hflags hbd ⟨B.exec, B.bytes, B.returns, hml, hown, hts, hX, hbl, B.notSynchronized, hgv⟩
    obtain ⟨t, a1, o, b1, b2, b3⟩ := K s₁ rfl X₀
    exact ⟨t, o, a1, b1, b2, b3⟩
theorem lw_pre_spec {args : Array Value} {s : State} (h : (Jvm.Cond.and given_1 narrow_1).before args s = true) (hr : rest_1_c.before args s = true) : ∃ (b : Addr) (xs : List Int32), lw_P b xs args s := by
  have hs := flat_of_before _ h
  have hq := flat_of_before _ hr
  have hc : (Cond.count 1).before args s = true := hs _ (by decide +kernel)
  have harr : (Cond.arrayOf (.arg 0) .int).before args s = true := hs _ (by decide +kernel)
  have hle : (Cond.le (.length (.arg 0)) (.int 2048)).before args s = true := hs _ (by decide +kernel)
  have hlen : (Cond.isInt (.length (.arg 0))).before args s = true := hq _ (by decide +kernel)
  have hall : (Cond.all (.arg 0) (.isInt (.elem (.arg 0) (.index 0)))).before args s = true := hq _ (by decide +kernel)
  obtain ⟨b, xs, hb, hx⟩ := State.ints_of_pre rfl harr hlen hall
  have hsm : xs.length < 2 ^ 31 := hx.choose_spec.2.2.2
  have hev : (Term.length (.arg 0)).eval args s none [] s = some (.int xs.length.toInt32) := hx.length_eval hb
  have hv := Cond.le_ints hev (show (Term.int 2048).eval args s none [] s = some (.int 2048) from rfl)
  have hd : xs.length.toInt32 ≤ 2048 := by
    simpa [Cond.before, Cond.holds, hv] using hle
  have hN : xs.length ≤ 2048 := (Int32.ofNat_le_ofNat hsm (by decide)).mp (show Int32.ofNat xs.length ≤ Int32.ofNat 2048 from hd)
  exact ⟨b, xs, Cond.one_arg hc (show args[0]? = some (.ref b) from hb), hx, hN, h⟩
theorem lw_comes (l : Launch) (hflags : l.flags = flags0) : Comes l x (Jvm.Cond.code x code maxLocals ret :: tables_1) room_1 (fun tb e args s => Calls_1 tb e args s ∧ rest_1 tb e args s ∧ Pre_1 tb e args s)
    (fun _ _ args s o t => lw_Q args s o t) := by
  intro p e ha hc hk s m args below hf hfit hheap happ hpre
  obtain ⟨b, xs, hP⟩ := lw_pre_spec hpre.2.2 hpre.2.1
  obtain ⟨k, o, h1, h2, h3, hQ⟩ := lw_walk l hflags b xs p e ha hc hk s m args below hf ((Spec.applies_iff_loose hf).mp happ).1 hP trivial
  exact ⟨k, o, h1, h2, h3, hQ⟩
theorem lw_frame {s t : State} {o : Outcome} {args : Array Value} (h : State.butDraws s t lw_cs (fun t1 => Framed s o t1 [] 714529 6893124)) :
    State.butDraws s t [Jvm.Choice.named "NaN.bits"] (fun t1 => Framed s o t1 (fieldLocs frame_1_writes args s ++ arrayLocs frame_1_arrays args s ++ staticLocs frame_1_statics s) 714529 6893124) := h
theorem lw_limb (L : Cond) (hL : ∀ (args : Array Value) (s t : State), L.after args s (.returned (some (.int 1))) t = true) :
    ArmFor flags0 classFile x code maxLocals ret World_1 tables_1 room_1 Calls_1 rest_1 Pre_1
      (fun tb e a s o t => postC L tb e a s o t ∧ State.butDraws s t [Jvm.Choice.named "NaN.bits"] (fun t1 => Framed s o t1 (fieldLocs frame_1_writes a s ++ arrayLocs frame_1_arrays a s ++ staticLocs frame_1_statics s) 714529 6893124)) := by
  intro l hflags _ _ p e ha hc hk s m args below hf hfit hheap happ hpre
  obtain ⟨k, o, h1, h2, h3, rfl, hF⟩ := lw_comes l hflags p e ha hc hk s m args below hf hfit hheap happ hpre
  exact ⟨k, _, h1, h2, h3, hL args s _, lw_frame hF⟩
theorem i_vc : Claimed_1_1 ∧ Claimed_1_2 := ⟨lw_limb limb_1_1 (fun args s t => by simp [limb_1_1, Cond.after, Cond.holds, Cond.value]), lw_limb limb_1_2 (fun args s t => Cond.after_iff.mpr (by
  first | (rw [show limb_1_2 = Cond.eq .result (.int 1) from rfl, Cond.eq_ints (x := 1) (y := 1) rfl rfl]; simp; done) | (simp [limb_1_2, Cond.value, Term.eval]; done)))⟩
