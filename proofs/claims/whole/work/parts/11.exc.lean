/-! Methods that throw: contracts, ends, calls. -/
abbrev KX (G : GT) (postx : String → St → Prop) : String → State → State → Prop := vx_X (fun _ : St => True) (fun E Y t => postx E Y ∧ Wd G Y t.heap) (Ab G)
abbrev MetXI (l : Launch) (G : GT) (k : Nat) (y : MethodName) (ws : List Cond) (rm : Room) (av : List Value) (X : St) (post : Int32 → St → Prop) (postx : String → St → Prop) : Prop := vx_Met l y ws rm (Kp G av X) (Ki G post) (KX G postx) k (6 * k) (Ab G)
abbrev MetXV (l : Launch) (G : GT) (k : Nat) (y : MethodName) (ws : List Cond) (rm : Room) (av : List Value) (X : St) (post : St → Prop) (postx : String → St → Prop) : Prop := vx_Met l y ws rm (Kp G av X) (Kv G post) (KX G postx) k (6 * k) (Ab G)
abbrev MetXR (l : Launch) (G : GT) (k : Nat) (y : MethodName) (ws : List Cond) (rm : Room) (av : List Value) (X : St) (post : Nat × St → Prop) (postx : String → St → Prop) : Prop := vx_Met l y ws rm (Kp G av X) (Kr G post) (KX G postx) k (6 * k) (Ab G)
abbrev rmk (k f L : Nat) : Room := { frames := f, cells := k, slots := 6 * k, locals := L }
theorem g_metX {l : Launch} {G : GT} {y : MethodName} {ws ws' : List Cond} {rm : Room} {cc : ByteArray} {maxL : Nat} {ret : Option FieldType} {av : List Value} {X : St} {Qc : Array Value → State → Outcome → State → Prop} {XC : String → State → State → Prop} {mc ms : Nat} (hy : plainName y.cls = true) (hw : ws = Cond.code y cc maxL ret :: ws') (hlen : (lg_sl av).length ≤ maxL)
    (body : ∀ (p : Program) (e : Env) (s : State) (m : MethodId) (below : List Frame) (meth : Method) (c : Code) (ls : Array Slot), Cx p m c cc maxL s av.toArray ws y.cls G → meth.sig.returnType = ret → meth.locks = false → (∀ x ∈ c.exceptionTable.toList, False) → Wd G X s.heap → lv_has ls maxL (lv_args 0 av) →
      W p l e rm s m av.toArray below meth c s.heap [] 0 0 (vx_MQ below Qc XC av.toArray s mc ms (Ab G)) (F0 m 0 ls [])) : vx_Met l y ws rm (Kp G av X) Qc XC mc ms (Ab G) := by
  refine vx_ofW (cc := cc) (maxL := maxL) (ret := ret) hy hw ?_
  intro p e s m args below meth c s₁ B hml hex hv
  obtain ⟨rfl, hE, hWd⟩ := hv
  rw [lg_entry_eq]
  exact body p e s m below meth c _ ⟨⟨B.exec, B.bytes, hml, findClass_of_methodNamed B.named, atoms_spec (ws := ws) B.pre⟩, hE⟩ B.returns B.notSynchronized hex hWd (lv_entry av hlen)
section GX
variable {p : Program} {l : Launch} {e : Env} {R : Room} {s : State} {m : MethodId} {args : Array Value} {below : List Frame} {meth : Method} {c : Code} {H : Heap} {locs : List Loc} {cells slots mc1 ms1 mc ms : Nat} {Q : State → Prop}
variable {cc : ByteArray} {nL pc : Nat} {ls : Array Slot} {rest st0 : List Value} {G : GT} {X : St} {Ts : List Cond} {own : String} {post : Int32 → St → Prop} {postv : St → Prop} {postr : Nat × St → Prop} {postx postx2 : String → St → Prop} {a : Array Value} {Qc : Array Value → State → Outcome → State → Prop}
theorem Wd.kept {H1 : Heap} (hW : Wd G X H) (hq : ∀ q : Nat, q < H.size → H1[q]? = H[q]?) : Wd G X H1 := ⟨hW.1.kept (fun k q hk => hq q.1 (hW.1 k q hk).lt), hW.2⟩
theorem g_cxi (hr : vx_Run p l e R s m args below meth c H locs cells slots mc1 ms1 (F0 m pc ls st0) rest (Ki G post a) (KX G postx) (Ab G)) (hS : va_S (Ab G) s.heap H locs)
    (kx : ∀ (E : String) (ce : Cell) (q9 : Addr) (Y : St) (H1 : Heap) (locs1 : List Loc), Wd G Y H1 → va_S (Ab G) s.heap H1 locs1 → postx E Y → H1[q9]? = some ce → ce.vm = .none → s.vm.findClass E = some ce.cls → vx_W p l e R s m args below meth c H1 locs1 (cells + mc1) (slots + ms1) Q (F0 m pc ls rest) q9)
    (kk : ∀ (r : Int32) (Y : St) (H1 : Heap) (locs1 : List Loc), Wd G Y H1 → va_S (Ab G) s.heap H1 locs1 → post r Y → W p l e R s m args below meth c H1 locs1 (cells + mc1) (slots + ms1) Q (F0 m (pc + 3) ls (.int r :: rest))) : W p l e R s m args below meth c H locs cells slots Q (F0 m pc ls st0) :=
  vx_calli hr hS (fun _ _ h => h) (fun _ h => h) (fun _ _ h => h) (fun E ce q9 Y _ H1 locs1 ht _ _ hB _ _ hS1 h1 h2 h3 => kx E ce q9 Y H1 locs1 (by rw [← ht]; exact hB.2) hS1 hB.1 h1 h2 h3) (fun r Y _ H1 locs1 ht _ hp hB _ _ hS1 => kk r Y H1 locs1 (by rw [← ht]; exact hB) hS1 hp)
theorem g_cxv (hr : vx_Run p l e R s m args below meth c H locs cells slots mc1 ms1 (F0 m pc ls st0) rest (Kv G postv a) (KX G postx) (Ab G)) (hS : va_S (Ab G) s.heap H locs)
    (kx : ∀ (E : String) (ce : Cell) (q9 : Addr) (Y : St) (H1 : Heap) (locs1 : List Loc), Wd G Y H1 → va_S (Ab G) s.heap H1 locs1 → postx E Y → H1[q9]? = some ce → ce.vm = .none → s.vm.findClass E = some ce.cls → vx_W p l e R s m args below meth c H1 locs1 (cells + mc1) (slots + ms1) Q (F0 m pc ls rest) q9)
    (kk : ∀ (Y : St) (H1 : Heap) (locs1 : List Loc), Wd G Y H1 → va_S (Ab G) s.heap H1 locs1 → postv Y → W p l e R s m args below meth c H1 locs1 (cells + mc1) (slots + ms1) Q (F0 m (pc + 3) ls rest)) : W p l e R s m args below meth c H locs cells slots Q (F0 m pc ls st0) :=
  vx_callv hr hS (fun _ _ h => h) (fun _ h => h) (fun _ _ h => h) (fun E ce q9 Y _ H1 locs1 ht _ _ hB _ _ hS1 h1 h2 h3 => kx E ce q9 Y H1 locs1 (by rw [← ht]; exact hB.2) hS1 hB.1 h1 h2 h3) (fun Y _ H1 locs1 ht _ hp hB _ _ hS1 => kk Y H1 locs1 (by rw [← ht]; exact hB) hS1 hp)
theorem g_cxr (hr : vx_Run p l e R s m args below meth c H locs cells slots mc1 ms1 (F0 m pc ls st0) rest (Kr G postr a) (KX G postx) (Ab G)) (hS : va_S (Ab G) s.heap H locs)
    (kx : ∀ (E : String) (ce : Cell) (q9 : Addr) (Y : St) (H1 : Heap) (locs1 : List Loc), Wd G Y H1 → va_S (Ab G) s.heap H1 locs1 → postx E Y → H1[q9]? = some ce → ce.vm = .none → s.vm.findClass E = some ce.cls → vx_W p l e R s m args below meth c H1 locs1 (cells + mc1) (slots + ms1) Q (F0 m pc ls rest) q9)
    (kk : ∀ (k : Nat) (Y : St) (H1 : Heap) (locs1 : List Loc), Wd G Y H1 → va_S (Ab G) s.heap H1 locs1 → postr (k, Y) → W p l e R s m args below meth c H1 locs1 (cells + mc1) (slots + ms1) Q (F0 m (pc + 3) ls (.ref (ad G k) :: rest))) : W p l e R s m args below meth c H locs cells slots Q (F0 m pc ls st0) := by
  intro T hT X0
  rcases hr T hT X0 with ⟨v, st₀, t, T', L, h0, X', hL, e1, e2, ⟨⟨u, aa, hv, hp, hb⟩, hF⟩, st⟩ | ⟨q, st₀, t, T', L, E, ce, h0, X', hL, e1, e2, ⟨u, hp, hb, hF⟩, hce, hcv, hcl, st⟩
  · cases hv
    obtain ⟨k1, k2, k3⟩ := vx_keep h0 e1 hS (fun _ _ h => h) (fun _ h => h) hL hF
    obtain ⟨k, Y⟩ := u
    obtain ⟨h1, h2⟩ := hb
    dsimp only at h1 h2
    subst h1
    obtain ⟨t2, a1, b1⟩ := kk k Y T'.heap (locs ++ L) (by rw [e1]; exact h2) k3 hp T' rfl X'
    exact ⟨t2, st t2 a1, b1⟩
  · obtain ⟨k1, k2, k3⟩ := vx_keep h0 e1 hS (fun _ _ h => h) (fun _ h => h) hL hF
    obtain ⟨t2, a1, b1⟩ := kx E ce q u T'.heap (locs ++ L) (by rw [e1]; exact hb.2) k3 hb.1 (by rw [e1]; exact hce) hcv hcl T' rfl X'
    exact ⟨t2, st.trans a1, b1⟩
/-- not caught here -/
theorem g_out {E : String} {ce : Cell} {q9 : Addr} {Y : St} (hex : ∀ x ∈ c.exceptionTable.toList, False) (hlk : meth.locks = false) (hW : Wd G Y H) (hS : va_S (Ab G) s.heap H locs) (hp : postx E Y) (h1 : H[q9]? = some ce) (h2 : ce.vm = .none) (h3 : s.vm.findClass E = some ce.cls) (hc : cells ≤ mc) (hs : slots ≤ ms) :
    vx_W p l e R s m args below meth c H locs cells slots (vx_MQ below Qc (KX G postx) args s mc ms (Ab G)) (F0 m pc ls rest) q9 :=
  vx_out (fun x hx => (hex x hx).elim) hlk h1 h2 h3 (fun t ht _ => ⟨Y, trivial, ⟨hp, by rw [ht]; exact hW⟩, hS.F ht⟩) hS.2.2 hc hs
theorem g_thr0 (C : Cx p m c cc nL s args Ts own G) (hl : l.stackTraces = false) {cls : String} {names : List String} {ik ic : Nat} (hex : ∀ x ∈ c.exceptionTable.toList, False) (hlk : meth.locks = false) (hls : ls.size = nL) (hcls : Bundle.fit cls = true) (hnames : ∀ n ∈ names, Bundle.fit n = true)
    (hk : Cond.classLink own ik cls ∈ Ts) (hini : Cond.initialized cls ∈ Ts) (h1 : ∀ w ∈ (vx_at0 own ic cls names).filter goodWord, w ∈ Ts) (h2 : ∀ w ∈ (vx_at0 own ic cls names).filter (fun w => !goodWord w), w ∈ nestWs) (h3 : ∀ w ∈ nestWs, w.onTables = true)
    (hgood : ∀ w ∈ Cond.classLink own ik cls :: Cond.initialized cls :: vx_at0 own ic cls names, vx_ot w = true)
    (d0 : decode cc pc = .ok (.new ik, 3)) (d3 : decode cc (pc + 3) = .ok (.dup, 1)) (d4 : decode cc (pc + 4) = .ok (.invokespecial ic, 3)) (d7 : decode cc (pc + 7) = .ok (.athrow, 1)) (hfr : names.length + 3 < R.frames) (hlo : (rest.map fun v => v.category).sum + (13 * (names.length + 1) + 42) ≤ R.locals) (hRc : cells + 1 ≤ R.cells) (hRs : slots + 6 ≤ R.slots) (hc : cells + 1 ≤ mc) (hs : slots + 6 ≤ ms)
    (hW : Wd G X H) (hS : va_S (Ab G) s.heap H locs) (hp : postx cls X) : W p l e R s m args below meth c H locs cells slots (vx_MQ below Qc (KX G postx) args s mc ms (Ab G)) (F0 m pc ls rest) :=
  vx_throw0 C.1.1 C.1.2.1 hl C.1.2.2.2.1 hcls hnames (C.1.2.2.2.2 _ hk) (C.1.2.2.2.2 _ hini) (vx_hat (fun w hw => C.1.2.2.2.2 w (h1 w hw)) h2 (fun w hw => va_Nw.use (h3 w hw) (C.2.2.1.1 w hw))) hgood C.2.2.2.2.2.1 C.2.2.2.2.2.2.1 hS (hls.trans C.1.2.2.1.symm) d0 d3 d4 d7 (fun x hx => (hex x hx).elim) hfr hlo hRc hRs hlk (fun t _ hz hq => ⟨X, trivial, ⟨hp, hW.kept hq⟩, Nat.le_trans hS.1 hz, fun q h8 h9 => (hq q (Nat.lt_of_lt_of_le h8 hS.1)).trans (hS.2.1 q h8 h9)⟩) hS.2.2 hc hs
end GX
theorem nest_on : ∀ w ∈ nestWs, w.onTables = true := by decide +kernel
theorem qn_IOOBE : ∀ w ∈ (vx_at0 "Foundry" 104 "java/lang/IndexOutOfBoundsException" ["java/lang/RuntimeException", "java/lang/Exception"]).filter (fun w => !goodWord w), w ∈ nestWs := by decide +kernel
theorem qn_IAE : ∀ w ∈ (vx_at0 "Foundry" 107 "java/lang/IllegalArgumentException" ["java/lang/RuntimeException", "java/lang/Exception"]).filter (fun w => !goodWord w), w ∈ nestWs := by decide +kernel
theorem qn_NSEE : ∀ w ∈ (vx_at0 "Foundry" 110 "java/util/NoSuchElementException" ["java/lang/RuntimeException", "java/lang/Exception"]).filter (fun w => !goodWord w), w ∈ nestWs := by decide +kernel
theorem qn_ISE : ∀ w ∈ (vx_at0 "Foundry" 113 "java/lang/IllegalStateException" ["java/lang/RuntimeException", "java/lang/Exception"]).filter (fun w => !goodWord w), w ∈ nestWs := by decide +kernel
theorem qn_UOE : ∀ w ∈ (vx_at0 "Foundry" 116 "java/lang/UnsupportedOperationException" ["java/lang/RuntimeException", "java/lang/Exception"]).filter (fun w => !goodWord w), w ∈ nestWs := by decide +kernel
theorem qn_AE : ∀ w ∈ (vx_at0 "Foundry" 226 "java/lang/ArithmeticException" ["java/lang/RuntimeException", "java/lang/Exception"]).filter (fun w => !goodWord w), w ∈ nestWs := by decide +kernel
