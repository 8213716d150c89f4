/-! The constructors: a world as a list that grows at its end. -/
def Wq (G : GT) (V : va_W) (H : Heap) : Prop := va_P (gD G) vwCl V H ∧ va_D (Ab G) V
def aoL : List String := ["Foundry$Vessel", "Foundry$Mixture", "Foundry$Plant", "Foundry$Command"]
/-- the classes of the arrays of objects, as the start's tables have them -/
def EnvA (U : State) : Prop := (∀ C ∈ aoL, va_AO C U) ∧ (Cond.arrayOver (.array .int)).before #[] U = true
theorem EnvA.moved {u U : State} (hvm : u.vm.Alike U.vm) (h : EnvA u) : EnvA U := ⟨fun C hC => (h.1 C hC).moved hvm, Stand.arrayOver_alikeB hvm h.2⟩
def InQ (G : GT) (V : va_W) (U : State) : Prop := EnvG G U U.heap ∧ EnvA U ∧ Wq G V U.heap
theorem InQ.blind {G : GT} {V : va_W} {a : Array Value} {U : State} {g : JFrame} {mk : MethodId} (h : InQ G V U) : InQ G V (U.calling g mk a) := by
  obtain ⟨⟨h1, h2, h3⟩, h5, h4⟩ := h
  exact ⟨⟨va_K.moved (u := U) (U := U.calling g mk a) (Vm.Alike.refl U.vm) h1, nest_same (u := U) (U := U.calling g mk a) rfl h2, EnvZ.moved (u := U) (U := U.calling g mk a) (Vm.Alike.refl U.vm) h3⟩, EnvA.moved (u := U) (U := U.calling g mk a) (Vm.Alike.refl U.vm) h5, h4⟩
abbrev Kpq (G : GT) (av : List Value) (V : va_W) : Array Value → State → Prop := va_Pc av (fun U => InQ G V U)
abbrev Kvq (G : GT) (post : va_W → Prop) : Array Value → State → Outcome → State → Prop := va_Qv post (fun V t => Wq G V t.heap) (Ab G)
abbrev MetC (l : Launch) (G : GT) (mc ms : Nat) (y : MethodName) (ws : List Cond) (rm : Room) (av : List Value) (V : va_W) (post : va_W → Prop) : Prop := Met l y ws rm (Kpq G av V) (Kvq G post) mc ms (Ab G)
abbrev rmc (f c n L : Nat) : Room := { frames := f, cells := c, slots := n, locals := L }
theorem Kpq.blind {G : GT} {av : List Value} {V : va_W} : FrameBlind (Kpq G av V) := fun _ _ _ _ h => ⟨h.1, h.2.blind⟩
theorem Wq.cast {G : GT} {V V' : va_W} {H : Heap} (e : V = V') (h : Wq G V H) : Wq G V' H := e ▸ h
theorem Wq.ab {G : GT} {V : va_W} {H : Heap} (hW : Wq G V H) {k : Nat} {x : Nat × va_E} (hx : V[k]? = some x) {q : Nat} (h : H.size ≤ q) : Ab G q := by
  have h1 : G.2.2.2 ≤ x.1 := hW.2.2 k x hx
  have h2 : x.1 < H.size := (hW.1 k x hx).lt
  show G.2.2.2 ≤ q
  omega
theorem ra_inj {U : State} {cA cB : ClassId} {ty : FieldType} (h1 : va_RA U cA ty) (h2 : va_RA U cB ty) : cA = cB := by
  cases ty with
  | object C =>
    obtain ⟨_, _, _, _, _, e1⟩ := h1
    obtain ⟨_, _, _, _, _, e2⟩ := h2
    exact Option.some.inj (e1.symm.trans e2)
  | _ =>
    have e1 : U.vm.findClass _ = some cA := h1
    have e2 : U.vm.findClass _ = some cB := h2
    exact Option.some.inj (e1.symm.trans e2)
theorem ql_at {W0 T : va_W} {i : Nat} {x : Nat × va_E} (h : T[i]? = some x) : (W0 ++ T)[W0.length + i]? = some x := by
  rw [List.getElem?_append_right (by omega), show W0.length + i - W0.length = i by omega]
  exact h
theorem ql_set {W0 T : va_W} {i : Nat} {x : Nat × va_E} : (W0 ++ T).set (W0.length + i) x = W0 ++ T.set i x := by
  rw [List.set_append_right _ _ (by omega), show W0.length + i - W0.length = i by omega]
section QMET
variable {l : Launch} {G : GT} {y : MethodName} {ws ws' : List Cond} {rm : Room} {cc : ByteArray} {maxL : Nat} {ret : Option FieldType} {av : List Value} {V : va_W}
theorem q_met {Qc : Array Value → State → Outcome → State → Prop} {mc ms : Nat} (hy : plainName y.cls = true) (hw : ws = Cond.code y cc maxL ret :: ws') (hlen : (lg_sl av).length ≤ maxL)
    (body : ∀ (p : Program) (e : Env) (s : State) (m : MethodId) (below : List Frame) (meth : Method) (c : Code) (ls : Array Slot), Cx p m c cc maxL s av.toArray ws y.cls G → meth.sig.returnType = ret → meth.locks = false → meth.name = y.name → EnvA s → Wq G V s.heap → lv_has ls maxL (lv_args 0 av) →
      W p l e rm s m av.toArray below meth c s.heap [] 0 0 (MQ below Qc av.toArray s mc ms (Ab G)) (F0 m 0 ls [])) : Met l y ws rm (Kpq G av V) Qc mc ms (Ab G) := by
  refine Met.ofW (cc := cc) (maxL := maxL) (ret := ret) hy hw ?_
  intro p e s m args below meth c s₁ B hml hv
  obtain ⟨rfl, hE, hO, hWd⟩ := hv
  rw [lg_entry_eq]
  exact body p e s m below meth c _ ⟨⟨B.exec, B.bytes, hml, findClass_of_methodNamed B.named, atoms_spec (ws := ws) B.pre⟩, hE⟩ B.returns B.notSynchronized (name_of_methodNamed B.named B.method).1 hO hWd (lv_entry av hlen)
end QMET
section QROWS
variable {p : Program} {l : Launch} {e : Env} {R : Room} {s : State} {m : MethodId} {args : Array Value} {below : List Frame} {meth : Method} {c : Code} {H : Heap} {locs : List Loc} {cells slots : Nat} {Q : State → Prop}
variable {cc : ByteArray} {nL pc : Nat} {ls : Array Slot} {rest : List Value} {G : GT} {W0 T : va_W} {Ts : List Cond} {own : String}
theorem q_new (C : Cx p m c cc nL s args Ts own G) (hW : Wq G (W0 ++ T) H) (hS : va_S (Ab G) s.heap H locs) (hA : ∀ q, s.heap.size ≤ q → Ab G q) {Cn : String} {Tn : u_T} {N ci index : Nat} (hin : ∀ w ∈ u_ws Cn Tn N, w ∈ Ts) (ty : Nat → FieldType) (hty : ∀ k, k < N → parseFieldDescriptor (Tn k).2.2.1 = some (ty k)) (hcl : Cond.classLink own index Cn ∈ Ts) (hinst : Cond.instantiable Cn N ∈ Ts) (hini : Cond.initialized Cn ∈ Ts) (hc : vwCl[ci]? = some (Cn, Tn, N)) {fs : List Value} (hfs : ∀ j, j < N → defaultValue (ty j) = vp_V fs j) (hcells : cells + 1 ≤ R.cells) (hslots : slots + N ≤ R.slots) (hdg : decode cc pc = .ok (.new index, 3))
    (kk : ∀ (q : Nat) (H1 : Heap), Wq G (W0 ++ (T ++ [(q, .inr (ci, fs))])) H1 → va_S (Ab G) s.heap H1 locs → W p l e R s m args below meth c H1 locs (cells + 1) (slots + N) Q (F0 m (pc + 3) ls (.ref q :: rest))) : W p l e R s m args below meth c H locs cells slots Q (F0 m pc ls rest) :=
  va_new (D := gD G) C.1.1 C.1.2.1 C.1.2.2.2.2 hin ty hty C.1.2.2.2.1 (C.1.2.2.2.2 _ hcl) (C.1.2.2.2.2 _ hinst) (C.1.2.2.2.2 _ hini) C.2.1 hW.1 hW.2 hS hA hc hfs hcells hslots hdg (fun q H1 h1 h2 h3 => by
    rw [List.append_assoc] at h1 h2
    exact kk q H1 ⟨h1, h2⟩ h3)
theorem q_newa (C : Cx p m c cc nL s args Ts own G) (hW : Wq G (W0 ++ T) H) (hS : va_S (Ab G) s.heap H locs) (hA : ∀ q, s.heap.size ≤ q → Ab G q) {atype : ArrayType} {ty : FieldType} (hty : newarray.typeOf atype = ty) (harr : Cond.arrayClass ty ∈ Ts) (j : Nat) (hj : (tysG G)[j]? = some (cy G j, ty)) {n : Int32} {N' : Nat} {a0 : vp_A} (ha : ∀ cA : ClassId, vp_cell cA a0 = arrV cA N' (fun _ => defaultValue ty)) (hn : ¬ n < 0) (hN : n.toNatClampNeg = N') (hbytes : N' * componentBytes ty ≤ 536870912) (hcells : cells + 1 ≤ R.cells) (hslots : slots + N' ≤ R.slots) (hdg : decode cc pc = .ok (.newarray atype, 2))
    (kk : ∀ (q : Nat) (H1 : Heap), Wq G (W0 ++ (T ++ [(q, .inl (cy G j, a0))])) H1 → va_S (Ab G) s.heap H1 locs → W p l e R s m args below meth c H1 locs (cells + 1) (slots + N') Q (F0 m (pc + 2) ls (.ref q :: rest))) : W p l e R s m args below meth c H locs cells slots Q (F0 m pc ls (.int n :: rest)) := by
  subst hty
  refine va_newa (D := gD G) (atype := atype) C.1.1 C.1.2.1 (C.1.2.2.2.2 _ harr) rfl C.2.1 hW.1 hW.2 hS hA ha hn hN hbytes hcells hslots hdg (fun q cA H1 hK h1 h2 h3 => ?_)
  have e : cA = cy G j := by
    have hl := (hK.2 (tysG G).length (cA, newarray.typeOf atype) (by rw [List.getElem?_append_right (Nat.le_refl _), Nat.sub_self]; rfl)).2
    exact ra_inj hl (C.2.1.2 j _ hj).2
  subst e
  rw [List.append_assoc] at h1 h2
  exact kk q H1 ⟨h1, h2⟩ h3
theorem q_newq (C : Cx p m c cc nL s args Ts own G) (hO : EnvA s) (hW : Wq G (W0 ++ T) H) (hS : va_S (Ab G) s.heap H locs) (hA : ∀ q, s.heap.size ≤ q → Ab G q) {Cn : String} {index : Nat} (hcl : Cond.classLink own index Cn ∈ Ts) (hov : Cn ∈ aoL) (j : Nat) (hj : (tysG G)[j]? = some (cy G j, .object Cn)) {n : Int32} {N' : Nat} (hn : ¬ n < 0) (hN : n.toNatClampNeg = N') (hbytes : N' * 4 ≤ 536870912) (hcells : cells + 1 ≤ R.cells) (hslots : slots + N' ≤ R.slots) (hdg : decode cc pc = .ok (.anewarray index, 3))
    (kk : ∀ (q : Nat) (H1 : Heap), Wq G (W0 ++ (T ++ [(q, .inl (cy G j, N', .inr (.inr (.inr (.inr (fun _ => none))))))])) H1 → va_S (Ab G) s.heap H1 locs → W p l e R s m args below meth c H1 locs (cells + 1) (slots + N') Q (F0 m (pc + 3) ls (.ref q :: rest))) : W p l e R s m args below meth c H locs cells slots Q (F0 m pc ls (.int n :: rest)) := by
  refine va_newq (D := gD G) C.1.1 C.1.2.1 C.1.2.2.2.1 (C.1.2.2.2.2 _ hcl) (hO.1 _ hov) C.2.1 hW.1 hW.2 hS hA hn hN hbytes hcells hslots hdg (fun q cA H1 hK h1 h2 h3 => ?_)
  have e : cA = cy G j := by
    have hl := (hK.2 (tysG G).length (cA, .object Cn) (by rw [List.getElem?_append_right (Nat.le_refl _), Nat.sub_self]; rfl)).2
    exact ra_inj hl (C.2.1.2 j _ hj).2
  subst e
  rw [List.append_assoc] at h1 h2
  exact kk q H1 ⟨h1, h2⟩ h3
theorem q_put (C : Cx p m c cc nL s args Ts own G) (hW : Wq G (W0 ++ T) H) (hS : va_S (Ab G) s.heap H locs) {Cn : String} {Tn : u_T} {N ci index : Nat} (hin : ∀ w ∈ u_ws Cn Tn N, w ∈ Ts) (ty0 : Nat → FieldType) (hty : ∀ k, k < N → parseFieldDescriptor (Tn k).2.2.1 = some (ty0 k)) (hnm : ∀ a, a < N → ∀ b, b < N → a ≠ b → (Tn a).2.1 ≠ (Tn b).2.1)
    (i : Nat) {a : Nat} {fs : List Value} (he : T[i]? = some (a, .inr (ci, fs))) (hc : vwCl[ci]? = some (Cn, Tn, N)) (k : Nat) (hk : k < N) {ref : String} (hlink : Cond.fieldLink own index ref (Tn k).2.1 (Tn k).2.2.1 ∈ Ts) (hsame : ∀ x, s.fieldFound? (Tn k).1 (Tn k).2.1 (Tn k).2.2.1 = some x → s.fieldFound? ref (Tn k).2.1 (Tn k).2.2.1 = some x) (hfin : (Tn k).2.2.2 = false) {ty : FieldType} {v : Value} (hd : parseFieldDescriptor (Tn k).2.2.1 = some ty) (hn : narrow ty v = v) (hfit : fits ty v = true) (hl : k < fs.length) (hdg : decode cc pc = .ok (.putfield index, 3))
    (kk : ∀ (H1 : Heap) (locs1 : List Loc), Wq G (W0 ++ T.set i (a, .inr (ci, fs.set k v))) H1 → va_S (Ab G) s.heap H1 locs1 → W p l e R s m args below meth c H1 locs1 cells slots Q (F0 m (pc + 3) ls rest)) : W p l e R s m args below meth c H locs cells slots Q (F0 m pc ls (v :: .ref a :: rest)) :=
  va_put (D := gD G) C.1.1 C.1.2.1 C.1.2.2.2.2 hin ty0 hty hnm C.1.2.2.2.1 C.2.1 hW.1 hW.2 hS (W0.length + i) (ql_at he) hc k hk (C.1.2.2.2.2 _ hlink) hsame hfin hd hn hfit hl hdg (fun H1 locs1 h1 h2 h3 => by
    rw [ql_set] at h1 h2
    exact kk H1 locs1 ⟨h1, h2⟩ h3)
theorem q_putF (C : Cx p m c cc nL s args Ts own G) (hW : Wq G (W0 ++ T) H) (hS : va_S (Ab G) s.heap H locs) {Cn : String} {Tn : u_T} {N ci index : Nat} (hin : ∀ w ∈ u_ws Cn Tn N, w ∈ Ts) (ty0 : Nat → FieldType) (hty : ∀ k, k < N → parseFieldDescriptor (Tn k).2.2.1 = some (ty0 k)) (hnm : ∀ a, a < N → ∀ b, b < N → a ≠ b → (Tn a).2.1 ≠ (Tn b).2.1)
    (i : Nat) {a : Nat} {fs : List Value} (he : T[i]? = some (a, .inr (ci, fs))) (hc : vwCl[ci]? = some (Cn, Tn, N)) (k : Nat) (hk : k < N) {ref : String} (hlink : Cond.fieldLink own index ref (Tn k).2.1 (Tn k).2.2.1 ∈ Ts) (hsame : ∀ x, s.fieldFound? (Tn k).1 (Tn k).2.1 (Tn k).2.2.1 = some x → s.fieldFound? ref (Tn k).2.1 (Tn k).2.2.1 = some x) (hfin : (Tn k).2.2.2 = true) (hin2 : meth.name = "<init>") (hdecl : (Tn k).1 = own) {ty : FieldType} {v : Value} (hd : parseFieldDescriptor (Tn k).2.2.1 = some ty) (hn : narrow ty v = v) (hfit : fits ty v = true) (hl : k < fs.length) (hdg : decode cc pc = .ok (.putfield index, 3))
    (kk : ∀ (H1 : Heap) (locs1 : List Loc), Wq G (W0 ++ T.set i (a, .inr (ci, fs.set k v))) H1 → va_S (Ab G) s.heap H1 locs1 → W p l e R s m args below meth c H1 locs1 cells slots Q (F0 m (pc + 3) ls rest)) : W p l e R s m args below meth c H locs cells slots Q (F0 m pc ls (v :: .ref a :: rest)) :=
  va_putF (D := gD G) C.1.1 C.1.2.1 C.1.2.2.2.2 hin ty0 hty hnm C.1.2.2.2.1 C.2.1 hW.1 hW.2 hS (W0.length + i) (ql_at he) hc k hk (C.1.2.2.2.2 _ hlink) hsame hfin hin2 hdecl hd hn hfit hl hdg (fun H1 locs1 h1 h2 h3 => by
    rw [ql_set] at h1 h2
    exact kk H1 locs1 ⟨h1, h2⟩ h3)
theorem q_get (C : Cx p m c cc nL s args Ts own G) (hW : Wq G (W0 ++ T) H) {Cn : String} {Tn : u_T} {N ci index : Nat} (hin : ∀ w ∈ u_ws Cn Tn N, w ∈ Ts) (i : Nat) {a : Nat} {fs : List Value} (he : T[i]? = some (a, .inr (ci, fs))) (hc : vwCl[ci]? = some (Cn, Tn, N)) (k : Nat) (hk : k < N) {ref : String} (hlink : Cond.fieldLink own index ref (Tn k).2.1 (Tn k).2.2.1 ∈ Ts) (hsame : ∀ x, s.fieldFound? (Tn k).1 (Tn k).2.1 (Tn k).2.2.1 = some x → s.fieldFound? ref (Tn k).2.1 (Tn k).2.2.1 = some x) {v : Value} (hv : fs[k]? = some v) (hdg : decode cc pc = .ok (.getfield index, 3))
    (kk : W p l e R s m args below meth c H locs cells slots Q (F0 m (pc + 3) ls (v :: rest))) : W p l e R s m args below meth c H locs cells slots Q (F0 m pc ls (.ref a :: rest)) :=
  va_get (D := gD G) C.1.1 C.1.2.1 C.1.2.2.2.2 hin C.1.2.2.2.1 C.2.1 hW.1 (W0.length + i) (ql_at he) hc k hk (C.1.2.2.2.2 _ hlink) hsame hv hdg kk
theorem q_aast (C : Cx p m c cc nL s args Ts own G) (hW : Wq G (W0 ++ T) H) (hS : va_S (Ab G) s.heap H locs) (i t0 qk ci : Nat) {a v n : Nat} {r : vw_C} {vs : List Value} {f : Nat → Option Nat} (ha : T[i]? = some (a, .inl (cy G t0, n, .inr (.inr (.inr (.inr f)))))) (ht : (tysG G)[t0]? = some (cy G t0, .object r.1)) (hv : T[qk]? = some (v, .inr (ci, vs))) (hc : vwCl[ci]? = some r) {x : Int32} (hin : vp_in x n) (hdg : decode cc pc = .ok (.aastore, 1))
    (kk : ∀ (H1 : Heap) (locs1 : List Loc), Wq G (W0 ++ T.set i (a, .inl (cy G t0, n, .inr (.inr (.inr (.inr (va_up f x.toNatClampNeg (some v)))))))) H1 → va_S (Ab G) s.heap H1 locs1 → W p l e R s m args below meth c H1 locs1 cells slots Q (F0 m (pc + 1) ls rest)) : W p l e R s m args below meth c H locs cells slots Q (F0 m pc ls (.ref v :: .int x :: .ref a :: rest)) :=
  va_astq (D := gD G) C.1.1 C.1.2.1 C.2.1 hW.1 hW.2 hS (W0.length + i) t0 (W0.length + qk) ci (ql_at ha) ht (ql_at hv) hc hin hdg (fun H1 locs1 h1 h2 h3 => by
    rw [ql_set] at h1 h2
    exact kk H1 locs1 ⟨h1, h2⟩ h3)
theorem q_iast (C : Cx p m c cc nL s args Ts own G) (hW : Wq G (W0 ++ T) H) (hS : va_S (Ab G) s.heap H locs) (i : Nat) {a n : Nat} {f : Nat → Int32} (ha : T[i]? = some (a, .inl (cy G 0, n, .inl f))) {x v : Int32} (hin : vp_in x n) (hdg : decode cc pc = .ok (.iastore, 1))
    (kk : ∀ (H1 : Heap) (locs1 : List Loc), Wq G (W0 ++ T.set i (a, .inl (cy G 0, n, .inl (upd f x.toNatClampNeg v)))) H1 → va_S (Ab G) s.heap H1 locs1 → W p l e R s m args below meth c H1 locs1 cells slots Q (F0 m (pc + 1) ls rest)) : W p l e R s m args below meth c H locs cells slots Q (F0 m pc ls (.int v :: .int x :: .ref a :: rest)) :=
  va_iast (D := gD G) C.1.1 C.1.2.1 C.2.1 hW.1 hW.2 hS (W0.length + i) 0 (ql_at ha) rfl hin hdg (fun H1 locs1 h1 h2 h3 => by
    rw [ql_set] at h1 h2
    exact kk H1 locs1 ⟨h1, h2⟩ h3)
theorem q_obj (C : Cx p m c cc nL s args Ts own G) (hsz : ls.size = nL) {idx : Nat} (hlink : Cond.methodLink own idx Lib.objectInit ∈ Ts) (hinst : Cond.instanceMethod Lib.objectInit ∈ Ts) (hcode : Cond.code Lib.objectInit ⟨#[0xb1]⟩ 1 none ∈ Ts) {a : Addr} (hd : decode cc pc = .ok (.invokespecial idx, 3)) (hframes : 1 ≤ R.frames) (hlocals : 40 ≤ R.locals) (hrest : (rest.map fun v => v.category).sum ≤ 8)
    (kk : W p l e R s m args below meth c H locs cells slots Q (F0 m (pc + 3) ls rest)) : W p l e R s m args below meth c H locs cells slots Q (F0 m pc ls (.ref a :: rest)) :=
  W.objInit C.1.1 C.1.2.1 C.1.2.2.2.1 (C.1.2.2.2.2 _ hlink) (C.1.2.2.2.2 _ hinst) (C.1.2.2.2.2 _ hcode) rfl (hsz.trans C.1.2.2.1.symm) rfl hd hframes (by show 2 * 0 + _ + 12 ≤ _; omega) kk
theorem q_pre (C : Cx p m c cc nL s args Ts own G) (hO : EnvA s) {V : va_W} (hW : Wq G V H) (hS : va_S (Ab G) s.heap H locs) (av : List Value) : FrameBlind (Kpq G av V) ∧ ∀ U : State, U.heap = H → s.WarmedH U.vm → Kpq G av V av.toArray U :=
  ⟨Kpq.blind, fun _ hU hw => ⟨rfl, C.2.to hw hS hU, hO.moved hw.alike, by rw [hU]; exact hW⟩⟩
theorem q_callv {mc ms : Nat} {post : va_W → Prop} {a : Array Value} {st0 : List Value} (hr : va_Run p l e R s m args below meth c H locs cells slots mc ms (F0 m pc ls st0) rest (Kvq G post a) (Ab G)) (hS : va_S (Ab G) s.heap H locs)
    (kk : ∀ (V : va_W) (H1 : Heap) (locs1 : List Loc), Wq G V H1 → va_S (Ab G) s.heap H1 locs1 → post V → W p l e R s m args below meth c H1 locs1 (cells + mc) (slots + ms) Q (F0 m (pc + 3) ls rest)) : W p l e R s m args below meth c H locs cells slots Q (F0 m pc ls st0) :=
  va_callv hr hS (fun _ _ h => h) (fun _ h => h) (fun V _ H1 locs1 ht _ hp hB _ _ hS1 => kk V H1 locs1 (by rw [← ht]; exact hB) hS1 hp)
theorem q_vret (C : Cx p m c cc nL s args Ts own G) (hr : meth.sig.returnType = none) (hlk : meth.locks = false) {V : va_W} (hW : Wq G V H) (hS : va_S (Ab G) s.heap H locs) {post : va_W → Prop} (hdg : decode cc pc = .ok (.return_, 1)) (hp : post V) : W p l e R s m args below meth c H locs cells slots (MQ below (Kvq G post) args s cells slots (Ab G)) (F0 m pc ls []) :=
  W.vret C.1.1 C.1.2.1 hr (fun _ ht hw => ⟨⟨V, rfl, hp, (by show Wq G V _; rw [ht]; exact hW)⟩, hS.F ht⟩) hS.2.2 hdg hlk
end QROWS
theorem qw_110 : Cond.instanceMethod ⟨"java/lang/Object", "<init>", "()V"⟩ ∈ lw_all := lw_mem 110 (by decide +kernel) (by decide +kernel)
theorem qw_111 : Cond.code ⟨"java/lang/Object", "<init>", "()V"⟩ object_method_1_code 1 (none : Option FieldType) ∈ lw_all := lw_mem 111 (by decide +kernel) (by decide +kernel)
theorem qw_118 : Cond.classLink "Foundry$Plant" 9 "Foundry$Vessel" ∈ lw_all := lw_mem 118 (by decide +kernel) (by decide +kernel)
theorem qw_120 : Cond.classLink "Foundry$Plant" 24 "Foundry$Mixture" ∈ lw_all := lw_mem 120 (by decide +kernel) (by decide +kernel)
theorem qw_122 : Cond.instantiable "Foundry$Mixture" 1 ∈ lw_all := lw_mem 122 (by decide +kernel) (by decide +kernel)
theorem qw_133 : Cond.arrayClass FieldType.int ∈ lw_all := lw_mem 133 (by decide +kernel) (by decide +kernel)
theorem qw_134 : Cond.instantiable "Foundry$Vessel" 3 ∈ lw_all := lw_mem 134 (by decide +kernel) (by decide +kernel)
theorem qw_139 : Cond.classLink "Foundry$Vessel" 9 "Foundry$Mixture" ∈ lw_all := lw_mem 139 (by decide +kernel) (by decide +kernel)
set_option maxHeartbeats 4000000 in
set_option maxRecDepth 100000 in
theorem cX3_init_q (l : Launch) (G : GT) (W0 : va_W) (h0 : Nat) : MetC l G 1 4 yX3_init (wsG yX3_init cX3_init 1 none) (rmc 1 1 4 40) [.ref h0] (W0 ++ [(h0, .inr (5, [.null]))]) (fun V => ∃ a1, V = W0 ++ [(h0, .inr (5, [.ref a1])), (a1, .inl (cy G 0, 4, .inl (fun _ => 0)))]) := by
  refine q_met (cc := cX3_init) (maxL := 1) (ret := none) (by decide) rfl (Nat.le_of_ble_eq_true rfl) ?_
  intro p e s m below meth c ls C hr hlk hnm hO hW hl
  have hx := C.1.1
  have hb := C.1.2.1
  have hS : va_S (Ab G) s.heap s.heap [] := va_S.rf
  have hA : ∀ q, s.heap.size ≤ q → Ab G q := fun q h => hW.ab (k := W0.length + 0) (ql_at rfl) h
  have hl : lv_has ls 1 [(0, .ref h0)] := hl
  refine lv_aload_n hx hb dX3_init_0 rfl (lv_at hl 0 rfl) ?_
  refine q_obj C hl.1 (mc qw_126) (mc qw_110) (mc qw_111) dX3_init_1 (by decide) (by decide) (by decide) ?_
  refine lv_aload_n hx hb dX3_init_4 rfl (lv_at hl 0 rfl) ?_
  refine lv_iconst (v := 4) hx hb dX3_init_5 (by decide) ?_
  refine q_newa (atype := .int) (a0 := (4, .inl (fun _ => 0))) (N' := 4) C hW hS hA rfl (mc qw_133) 0 rfl (fun cA => rfl) (by decide) rfl (by decide) (by decide) (by decide) dX3_init_6 (fun q1 H hW hS => ?_)
  have hW : Wq G (W0 ++ [(h0, .inr (5, [.null])), (q1, .inl (cy G 0, 4, .inl (fun _ => 0)))]) H := hW
  refine q_putF (ci := 5) (v := .ref q1) (ty := .array .int) C hW hS (hwc hwX3) tyX3 tyX3_ok nmX3 0 rfl rfl 0 (by decide) (mc qw_127) (fun _ h9 => h9) rfl hnm rfl (by decide +kernel) rfl rfl (Nat.le_of_ble_eq_true rfl) dX3_init_8 (fun H locs hW hS => ?_)
  have hW : Wq G (W0 ++ [(h0, .inr (5, [.ref q1])), (q1, .inl (cy G 0, 4, .inl (fun _ => 0)))]) H := hW
  refine W.widen (k := 1) (n := 4) (by decide) (by decide) ?_
  exact q_vret C hr hlk hW hS dX3_init_11 ⟨_, rfl⟩

set_option maxHeartbeats 4000000 in
set_option maxRecDepth 100000 in
theorem cX6_init_q (l : Launch) (G : GT) (W0 : va_W) (h0 : Nat) (x9 : Int32) : MetC l G 2 5 yX6_init (wsG yX6_init cX6_init 2 none) (rmc 2 2 5 60) [.ref h0, .int x9] (W0 ++ [(h0, .inr (8, [.null, .int 0, .int 0]))]) (fun V => ∃ a1 a2, V = W0 ++ [(h0, .inr (8, [.ref a1, .int x9, .int 20])), (a1, .inr (5, [.ref a2])), (a2, .inl (cy G 0, 4, .inl (fun _ => 0)))]) := by
  refine q_met (cc := cX6_init) (maxL := 2) (ret := none) (by decide) rfl (Nat.le_of_ble_eq_true rfl) ?_
  intro p e s m below meth c ls C hr hlk hnm hO hW hl
  have hx := C.1.1
  have hb := C.1.2.1
  have hS : va_S (Ab G) s.heap s.heap [] := va_S.rf
  have hA : ∀ q, s.heap.size ≤ q → Ab G q := fun q h => hW.ab (k := W0.length + 0) (ql_at rfl) h
  have hl : lv_has ls 2 [(0, .ref h0), (1, .int x9)] := hl
  refine lv_aload_n hx hb dX6_init_0 rfl (lv_at hl 0 rfl) ?_
  refine q_obj C hl.1 (mc qw_138) (mc qw_110) (mc qw_111) dX6_init_1 (by decide) (by decide) (by decide) ?_
  refine lv_aload_n hx hb dX6_init_4 rfl (lv_at hl 0 rfl) ?_
  refine q_new (ci := 5) (fs := [.null]) C hW hS hA (hwc hwX3) tyX3 tyX3_ok (mc qw_139) (mc qw_122) (mc qw_73) rfl (fun j hj => by rcases (show j = 0 by omega) with rfl <;> rfl) (by decide) (by decide) dX6_init_5 (fun q1 H hW hS => ?_)
  have hW : Wq G (W0 ++ [(h0, .inr (8, [.null, .int 0, .int 0])), (q1, .inr (5, [.null]))]) H := hW
  refine lv_dup hx hb dX6_init_8 rfl ?_
  have hWc : Wq G ((W0 ++ [(h0, .inr (8, [.null, .int 0, .int 0]))]) ++ [(q1, .inr (5, [.null]))]) H := Wq.cast (by rw [List.append_assoc]; rfl) hW
  refine q_callv (va_runIN (As := []) (rest := [.ref q1, .ref h0]) C.1 (cX3_init_q l G (W0 ++ [(h0, .inr (8, [.null, .int 0, .int 0]))]) q1) (⟨va_cnB 0 C.1.2.2.2.2 (gN qw_125) rfl rfl rfl (C.2.2.1.1 _ nw_33) (C.1.2.2.2.2 _ (mc qw_73)) (by decide +kernel) ⟨Nat.le_of_ble_eq_true rfl, Nat.le_of_ble_eq_true rfl⟩, rfl, C.1.2.2.2.2 _ (mc qw_124)⟩) (q_pre C hO hWc hS [.ref q1]) rfl rfl hl.1 rfl (lv_room (Nat.le_of_ble_eq_true rfl)) dX6_init_9 ⟨by decide, by decide⟩) hS (fun V H locs hW hS hV => ?_)
  obtain ⟨a2, rfl⟩ := hV
  replace hW : Wq G (W0 ++ [(h0, .inr (8, [.null, .int 0, .int 0])), (q1, .inr (5, [.ref a2])), (a2, .inl (cy G 0, 4, .inl (fun _ => 0)))]) H := Wq.cast (by rw [List.append_assoc]; rfl) hW
  refine q_putF (ci := 8) (v := .ref q1) (ty := .object "Foundry$Mixture") C hW hS (hwc hwX6) tyX6 tyX6_ok nmX6 0 rfl rfl 0 (by decide) (mc qw_141) (fun _ h9 => h9) rfl hnm rfl (by decide +kernel) rfl rfl (Nat.le_of_ble_eq_true rfl) dX6_init_12 (fun H locs hW hS => ?_)
  have hW : Wq G (W0 ++ [(h0, .inr (8, [.ref q1, .int 0, .int 0])), (q1, .inr (5, [.ref a2])), (a2, .inl (cy G 0, 4, .inl (fun _ => 0)))]) H := hW
  refine lv_aload_n hx hb dX6_init_15 rfl (lv_at hl 0 rfl) ?_
  refine lv_bipush (v := 20) hx hb dX6_init_16 (by decide) ?_
  refine q_put (ci := 8) (v := .int 20) (ty := .int) C hW hS (hwc hwX6) tyX6 tyX6_ok nmX6 0 rfl rfl 2 (by decide) (mc qw_145) (fun _ h9 => h9) rfl (by decide +kernel) rfl rfl (Nat.le_of_ble_eq_true rfl) dX6_init_18 (fun H locs hW hS => ?_)
  have hW : Wq G (W0 ++ [(h0, .inr (8, [.ref q1, .int 0, .int 20])), (q1, .inr (5, [.ref a2])), (a2, .inl (cy G 0, 4, .inl (fun _ => 0)))]) H := hW
  refine lv_aload_n hx hb dX6_init_21 rfl (lv_at hl 0 rfl) ?_
  refine lv_iload_n hx hb dX6_init_22 rfl (lv_at hl 1 rfl) ?_
  refine q_putF (ci := 8) (v := .int x9) (ty := .int) C hW hS (hwc hwX6) tyX6 tyX6_ok nmX6 0 rfl rfl 1 (by decide) (mc qw_144) (fun _ h9 => h9) rfl hnm rfl (by decide +kernel) rfl rfl (Nat.le_of_ble_eq_true rfl) dX6_init_23 (fun H locs hW hS => ?_)
  have hW : Wq G (W0 ++ [(h0, .inr (8, [.ref q1, .int x9, .int 20])), (q1, .inr (5, [.ref a2])), (a2, .inl (cy G 0, 4, .inl (fun _ => 0)))]) H := hW
  refine W.widen (k := 2) (n := 5) (by decide) (by decide) ?_
  exact q_vret C hr hlk hW hS dX6_init_26 ⟨_, _, rfl⟩
